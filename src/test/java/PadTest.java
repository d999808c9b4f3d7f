/** Promises 1 to 4: a new object, type, drop, write. */
public final class PadTest {
    public static void main(String[] args) {
        newObject();
        type();
        drop();
        write();
        writeOfWrongNumbers();
        writeOfWrongShapes();
        typeOfEveryCharacter();
        typeIntoAFullPad();
        dropAtItsEdges();
        writeLooksOnlyAtWhatItHas();
        writeAtTheEdgesOfNumbers();
        writeOverAFullPad();
        Check.end();
    }

    private static void newObject() {
        PauseLog log = new PauseLog();
        Check.counts("new", log, 0, 0, 0, 0, 0, 0, 0, 0, 0, PauseLog.NONE, PauseLog.NONE);
        Check.noIndex("event of a new object", () -> log.event(0, 0));
        Check.noIndex("diagnostic of a new object", () -> log.diagnostic(0, 0));
        Check.same("finish of a new object", log.finish(), 0);
        Check.same("diagnostics of an empty log", log.count(2), 0);
        PauseLog other = new PauseLog();
        Check.line(other, "[0.000s]GC(0) Mark", 0);
        Check.same("lines of the first object", log.count(0), 0);
    }

    private static void type() {
        PauseLog log = new PauseLog();
        char[] outside = {0, 31, 127, 128, 255, 0x2028, 0xffff};
        for (char c : outside) {
            Check.same("type of " + (int) c, log.type(c), false);
        }
        Check.same("pad after wrong characters", log.count(6), 0);
        for (int n = 0; n < 72; n++) {
            Check.same("type " + n, log.type((char) (32 + n)), true);
            Check.same("pad", log.count(6), n + 1);
        }
        Check.same("type into a full pad", log.type('a'), false);
        Check.same("full pad", log.count(6), 72);
        log.drop(1);
        Check.same("type of 126", log.type((char) 126), true);
        Check.same("type into a full pad again", log.type('a'), false);
    }

    private static void drop() {
        PauseLog log = new PauseLog();
        Check.type(log, "[0.000s]GC(0) Markxyz");
        Check.noArgument("drop(-1)", () -> log.drop(-1));
        Check.noArgument("drop of the least int", () -> log.drop(Integer.MIN_VALUE));
        Check.same("pad after wrong drops", log.count(6), 21);
        Check.same("drop(0)", log.drop(0), 0);
        Check.same("drop(3)", log.drop(3), 3);
        Check.same("the last characters went", log.line(), 0);
        Check.type(log, "abc");
        Check.same("drop of more than there are", log.drop(Integer.MAX_VALUE), 3);
        Check.same("drop from an empty pad", log.drop(1), 0);
    }

    // The pad can't be looked at: so each beginning of the text is kept, and the due rest typed behind it.
    private static void write() {
        written(0, 7, 1250, 0, 0, 0, 0, "[1.250s]GC(7) Pause Young (Alloc)");
        written(110, 7, 1250, 0, 0, 0, 0, "[1.250s]GC(7) Pause Mixed (Meta)");
        written(220, 999, 99999999, 0, 0, 0, 0, "[99999.999s]GC(999) Pause Full (User)");
        written(1, 0, 0, 0, 0, 0, 0, "[0.000s]GC(0) Pause Young (Alloc) 0K->0K(0K) 0.000ms");
        written(211, 10, 10000, 1023, 1024, 1025, 1000, "[10.000s]GC(10) Pause Mixed (User) 1023K->1M(1025K) 1.000ms");
        written(1, 999, 99999999, 9999, 9999, 9999, 9999999,
            "[99999.999s]GC(999) Pause Young (Alloc) 9999K->9999K(9999K) 9999.999ms");
        written(2, 1, 1, 9999, 10240, -1, -1, "[0.001s]GC(1) Eden 9999K->10M");
        written(3, 1, 10, 10238976, 9216, -1, -1, "[0.010s]GC(1) Old 9999M->9M");
        written(4, 1, 100, -1, -1, -1, -1, "[0.100s]GC(1) Mark");
        written(5, 1, 99999, -1, -1, -1, 10, "[99.999s]GC(1) Mark 0.010ms");
        written(6, 100, 100000, -1, -1, -1, -1, "[100.000s]GC(100) Mark Abort");
        written(0, 7, 1250, -1, 10000, 10000, -1, "[1.250s]GC(7) Pause Young (Alloc)");
    }

    private static void written(int shape, int id, int time, int a, int b, int c, int took, String due) {
        for (int k = 0; k <= due.length(); k++) {
            PauseLog log = new PauseLog();
            Check.type(log, "something before");
            Check.same("write of " + due, log.write(shape, id, time, a, b, c, took), due.length());
            Check.same("pad of " + due, log.count(6), due.length());
            log.drop(due.length() - k);
            Check.type(log, due.substring(k));
            Check.same("line() of the written " + due, log.line() == -PauseLog.SYNTAX, false);
            Check.same("empty pad", log.count(6), 0);
        }
    }

    private static void writeOfWrongNumbers() {
        wrong(0, -1, 0, 0, 0, 0, 0);
        wrong(0, 1000, 0, 0, 0, 0, 0);
        wrong(0, 0, -1, 0, 0, 0, 0);
        wrong(4, 0, 100000000, 0, 0, 0, 0);
        wrong(2, 0, 0, -1, 0, 0, 0);
        wrong(2, 0, 0, 0, 10000, 0, 0);
        wrong(2, 0, 0, -1024, 0, 0, 0);
        wrong(3, 0, 0, 10241, 0, 0, 0);
        wrong(3, 0, 0, 0, 10240000, 0, 0);
        wrong(1, 0, 0, 0, 0, -1, 0);
        wrong(1, 0, 0, 0, 0, 10000, 0);
        wrong(1, 0, 0, 0, 0, 0, -1);
        wrong(1, 0, 0, 0, 0, 0, 10000000);
        wrong(5, 0, 0, 0, 0, 0, -1);
        wrong(5, 0, 0, 0, 0, 0, 10000000);
        wrong(6, Integer.MIN_VALUE, 0, 0, 0, 0, 0);
        wrong(6, 0, Integer.MAX_VALUE, 0, 0, 0, 0);
        wrong(2, 0, 0, Integer.MIN_VALUE, 0, 0, 0);
    }

    private static void writeOfWrongShapes() {
        for (int shape = -20; shape < 1300; shape++) {
            boolean pause = shape >= 0 && shape % 10 <= 1 && shape / 10 % 10 <= 2 && shape / 100 <= 2;
            if (!pause && (shape < 2 || shape > 6)) {
                wrong(shape, 0, 0, 0, 0, 0, 0);
            }
        }
        wrong(Integer.MAX_VALUE, 0, 0, 0, 0, 0, 0);
        wrong(Integer.MIN_VALUE, 0, 0, 0, 0, 0, 0);
        wrong(2147483640, 0, 0, 0, 0, 0, 0);
    }

    private static void wrong(int shape, int id, int time, int a, int b, int c, int took) {
        PauseLog log = new PauseLog();
        Check.type(log, "[0.500s]GC(3) Mark");
        Check.noArgument("write of shape " + shape, () -> log.write(shape, id, time, a, b, c, took));
        Check.same("pad after a wrong write", log.line(), 0);
        Check.same("mark of the pad after a wrong write", log.count(10), 3);
    }

    // "false if it is full, or the character is not one of 32 .. 126"
    private static void typeOfEveryCharacter() {
        for (int c = 0; c <= 0xffff; c++) {
            PauseLog log = new PauseLog();
            boolean due = c >= 32 && c <= 126;
            Check.same("type of " + c, log.type((char) c), due);
            Check.same("pad with " + c, log.count(6), due ? 1 : 0);
        }
    }

    private static void typeIntoAFullPad() {
        PauseLog log = new PauseLog();
        String line = "[0.000s]GC(7) Mark";
        Check.type(log, line + "~".repeat(72 - line.length()));
        Check.same("the 73rd", log.type('x'), false);
        Check.same("nor a wrong one", log.type((char) 31), false);
        Check.same("72 remain", log.count(6), 72);
        log.drop(1);
        Check.same("the 72nd again", log.type('~'), true);
        Check.same("the 73rd again", log.type('~'), false);
        Check.same("drop", log.drop(72 - line.length()), 72 - line.length());
        Check.same("the line is as it was", log.line(), 0);
        Check.same("its id", log.count(10), 7);
    }

    // "The last n characters go out of the pad (all, if it has fewer)"
    private static void dropAtItsEdges() {
        int[][] lengthsDropsAndDue = {{0, 0, 0}, {0, 1, 0}, {5, 0, 0}, {5, 4, 4}, {5, 5, 5}, {5, 6, 5}, {72, 71, 71}, {72, 72, 72},
            {72, 73, 72}, {72, Integer.MAX_VALUE, 72}, {0, Integer.MAX_VALUE, 0}};
        for (int[] each : lengthsDropsAndDue) {
            PauseLog log = new PauseLog();
            Check.type(log, "x".repeat(each[0]));
            Check.same("drop(" + each[1] + ") of " + each[0], log.drop(each[1]), each[2]);
            Check.same("pad then", log.count(6), each[0] - each[2]);
        }
        PauseLog log = new PauseLog();
        Check.noArgument("drop(-1) from an empty pad", () -> log.drop(-1));
    }

    // "sizes a, b, c (as many as it has; the others are not looked at) and took"
    private static void writeLooksOnlyAtWhatItHas() {
        int[] without = {-1, 10000, Integer.MIN_VALUE, Integer.MAX_VALUE};
        for (int n : without) {
            for (int pause = 0; pause < 9; pause++) {
                int shape = 10 * (pause % 3) + 100 * (pause / 3);
                Check.same("BEGIN", new PauseLog().write(shape, 0, 0, n, n, n, n), new PauseLog().write(shape, 0, 0, 0, 0, 0, 0));
            }
            Check.same("EDEN", new PauseLog().write(2, 0, 0, 1, 1, n, n), "[0.000s]GC(0) Eden 1K->1K".length());
            Check.same("OLD", new PauseLog().write(3, 0, 0, 1, 1, n, n), "[0.000s]GC(0) Old 1K->1K".length());
            Check.same("MARK", new PauseLog().write(4, 0, 0, n, n, n, n), "[0.000s]GC(0) Mark".length());
            Check.same("MARKED", new PauseLog().write(5, 0, 0, n, n, n, 1), "[0.000s]GC(0) Mark 0.001ms".length());
            Check.same("ABORT", new PauseLog().write(6, 0, 0, n, n, n, n), "[0.000s]GC(0) Mark Abort".length());
        }
    }

    // "or a number that is looked at has no text": one has it up to these, and none behind them
    private static void writeAtTheEdgesOfNumbers() {
        for (int id : new int[] {0, 9, 10, 99, 100, 999, 1000}) {
            int due = "[0.000s]GC() Mark".length() + String.valueOf(id).length();
            writtenUnless(id > 999, due, () -> new PauseLog().write(4, id, 0, 0, 0, 0, 0));
        }
        for (int time : new int[] {0, 999, 1000, 9999, 10000, 99999, 100000, 99999999, 100000000}) {
            int due = "[.000s]GC(0) Mark".length() + String.valueOf(time / 1000).length();
            writtenUnless(time > 99999999, due, () -> new PauseLog().write(4, 0, time, 0, 0, 0, 0));
        }
        for (int took : new int[] {0, 999, 1000, 9999, 10000, 999999, 1000000, 9999999, 10000000}) {
            int due = "[0.000s]GC(0) Mark .000ms".length() + String.valueOf(took / 1000).length();
            writtenUnless(took > 9999999, due, () -> new PauseLog().write(5, 0, 0, 0, 0, 0, took));
        }
    }

    private static void writtenUnless(boolean refused, int due, Check.Call call) {
        Check.call("write", refused ? IllegalArgumentException.class : due, call);
    }

    // "The pad becomes the text of a line"
    private static void writeOverAFullPad() {
        PauseLog log = new PauseLog();
        Check.type(log, "x".repeat(72));
        Check.same("write over it", log.write(4, 7, 0, 0, 0, 0, 0), 18);
        Check.same("pad", log.count(6), 18);
        Check.same("write of the longest", log.write(1, 999, 99999999, 9999, 9999, 9999, 9999999), 70);
        Check.same("two more", log.type('x') && log.type('x'), true);
        Check.same("not three", log.type('x'), false);
        Check.same("a shorter one", log.write(4, 7, 0, 0, 0, 0, 0), 18);
        Check.same("line()", log.line(), 0);
        Check.same("its id", log.count(10), 7);
    }
}
