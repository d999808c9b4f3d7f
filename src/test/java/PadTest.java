/** Promises 1 to 4: a new object, type, drop, write. */
public final class PadTest {
    public static void main(String[] args) {
        newObject();
        type();
        drop();
        write();
        writeOfWrongNumbers();
        writeOfWrongShapes();
        Check.end();
    }

    private static void newObject() {
        PauseLog log = new PauseLog();
        Check.counts("new", log, 0, 0, 0, 0, 0, 0, 0, 0, 0, PauseLog.NONE, PauseLog.NONE);
        Check.noIndex("event of a new object", () -> log.event(0, 0));
        Check.noIndex("diagnostic of a new object", () -> log.diagnostic(0, 0));
        Check.same("finish of a new object", log.finish(), 0);
        Check.same("diagnostics of an empty log", log.count(2), 0);
        PauseLog other = new PauseLog();
        Check.line(other, "[0.000s]GC(0) Mark", 0);
        Check.same("lines of the first object", log.count(0), 0);
    }

    private static void type() {
        PauseLog log = new PauseLog();
        char[] outside = {0, 31, 127, 128, 255, 0x2028, 0xffff};
        for (char c : outside) {
            Check.same("type of " + (int) c, log.type(c), false);
        }
        Check.same("pad after wrong characters", log.count(6), 0);
        for (int n = 0; n < 72; n++) {
            Check.same("type " + n, log.type((char) (32 + n)), true);
            Check.same("pad", log.count(6), n + 1);
        }
        Check.same("type into a full pad", log.type('a'), false);
        Check.same("full pad", log.count(6), 72);
        log.drop(1);
        Check.same("type of 126", log.type((char) 126), true);
        Check.same("type into a full pad again", log.type('a'), false);
    }

    private static void drop() {
        PauseLog log = new PauseLog();
        Check.type(log, "[0.000s]GC(0) Markxyz");
        Check.noArgument("drop(-1)", () -> log.drop(-1));
        Check.noArgument("drop of the least int", () -> log.drop(Integer.MIN_VALUE));
        Check.same("pad after wrong drops", log.count(6), 21);
        Check.same("drop(0)", log.drop(0), 0);
        Check.same("drop(3)", log.drop(3), 3);
        Check.same("the last characters went", log.line(), 0);
        Check.type(log, "abc");
        Check.same("drop of more than there are", log.drop(Integer.MAX_VALUE), 3);
        Check.same("drop from an empty pad", log.drop(1), 0);
    }

    // The pad can't be looked at: so each beginning of the text is kept, and the due rest typed behind it.
    private static void write() {
        written(0, 7, 1250, 0, 0, 0, 0, "[1.250s]GC(7) Pause Young (Alloc)");
        written(110, 7, 1250, 0, 0, 0, 0, "[1.250s]GC(7) Pause Mixed (Meta)");
        written(220, 999, 99999999, 0, 0, 0, 0, "[99999.999s]GC(999) Pause Full (User)");
        written(1, 0, 0, 0, 0, 0, 0, "[0.000s]GC(0) Pause Young (Alloc) 0K->0K(0K) 0.000ms");
        written(211, 10, 10000, 1023, 1024, 1025, 1000, "[10.000s]GC(10) Pause Mixed (User) 1023K->1M(1025K) 1.000ms");
        written(1, 999, 99999999, 9999, 9999, 9999, 9999999,
            "[99999.999s]GC(999) Pause Young (Alloc) 9999K->9999K(9999K) 9999.999ms");
        written(2, 1, 1, 9999, 10240, -1, -1, "[0.001s]GC(1) Eden 9999K->10M");
        written(3, 1, 10, 10238976, 9216, -1, -1, "[0.010s]GC(1) Old 9999M->9M");
        written(4, 1, 100, -1, -1, -1, -1, "[0.100s]GC(1) Mark");
        written(5, 1, 99999, -1, -1, -1, 10, "[99.999s]GC(1) Mark 0.010ms");
        written(6, 100, 100000, -1, -1, -1, -1, "[100.000s]GC(100) Mark Abort");
        written(0, 7, 1250, -1, 10000, 10000, -1, "[1.250s]GC(7) Pause Young (Alloc)");
    }

    private static void written(int shape, int id, int time, int a, int b, int c, int took, String due) {
        PauseLog log = new PauseLog();
        Check.type(log, "something before");
        Check.same("write of " + due, log.write(shape, id, time, a, b, c, took), due.length());
        Check.same("pad of " + due, log.count(6), due.length());
        for (int k = 0; k <= due.length(); k++) {
            Check.same("write of " + due, log.write(shape, id, time, a, b, c, took), due.length());
            log.drop(due.length() - k);
            Check.type(log, due.substring(k));
            Check.same("line() of the written " + due, log.line() == -PauseLog.SYNTAX, false);
            Check.same("empty pad", log.count(6), 0);
        }
    }

    private static void writeOfWrongNumbers() {
        wrong(0, -1, 0, 0, 0, 0, 0);
        wrong(0, 1000, 0, 0, 0, 0, 0);
        wrong(0, 0, -1, 0, 0, 0, 0);
        wrong(4, 0, 100000000, 0, 0, 0, 0);
        wrong(2, 0, 0, -1, 0, 0, 0);
        wrong(2, 0, 0, 0, 10000, 0, 0);
        wrong(2, 0, 0, -1024, 0, 0, 0);
        wrong(3, 0, 0, 10241, 0, 0, 0);
        wrong(3, 0, 0, 0, 10240000, 0, 0);
        wrong(1, 0, 0, 0, 0, -1, 0);
        wrong(1, 0, 0, 0, 0, 10000, 0);
        wrong(1, 0, 0, 0, 0, 0, -1);
        wrong(1, 0, 0, 0, 0, 0, 10000000);
        wrong(5, 0, 0, 0, 0, 0, -1);
        wrong(5, 0, 0, 0, 0, 0, 10000000);
        wrong(6, Integer.MIN_VALUE, 0, 0, 0, 0, 0);
        wrong(6, 0, Integer.MAX_VALUE, 0, 0, 0, 0);
        wrong(2, 0, 0, Integer.MIN_VALUE, 0, 0, 0);
    }

    private static void writeOfWrongShapes() {
        for (int shape = -20; shape < 1300; shape++) {
            boolean pause = shape >= 0 && shape % 10 <= 1 && shape / 10 % 10 <= 2 && shape / 100 <= 2;
            if (!pause && (shape < 2 || shape > 6)) {
                wrong(shape, 0, 0, 0, 0, 0, 0);
            }
        }
        wrong(Integer.MAX_VALUE, 0, 0, 0, 0, 0, 0);
        wrong(Integer.MIN_VALUE, 0, 0, 0, 0, 0, 0);
        wrong(2147483640, 0, 0, 0, 0, 0, 0);
    }

    private static void wrong(int shape, int id, int time, int a, int b, int c, int took) {
        PauseLog log = new PauseLog();
        Check.type(log, "[0.500s]GC(3) Mark");
        Check.noArgument("write of shape " + shape, () -> log.write(shape, id, time, a, b, c, took));
        Check.same("pad after a wrong write", log.line(), 0);
        Check.same("mark of the pad after a wrong write", log.count(10), 3);
    }
}
