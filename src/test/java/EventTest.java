/** Promises 7 and 8: event, shown. */
public final class EventTest {
    public static void main(String[] args) {
        facts();
        aborted();
        shown();
        shownWithThePadInUse();
        outside();
        Check.end();
    }

    // Only what write would write otherwise is typed, since typing takes so many of an object's calls.
    private static PauseLog sample() {
        PauseLog log = new PauseLog();
        Lines.mark(log, 1, 500, 0);
        Lines.put(log, 210, 2, 1000, 0);
        Check.line(log, "[1.001s]GC(2) Old 2048K->1025K", 0);
        Check.line(log, "[1.002s]GC(2) Eden 7M->0M", 0);
        Check.line(log, "[1.003s]GC(2) Pause Mixed (User) 9216K->2000K(64M) 3.456ms", 1);
        Lines.put(log, 120, 3, 1010, 0);
        Lines.put(log, 121, 3, 1020, new int[] {2000, 100, 10238976, 10000}, 1);
        Lines.marked(log, 1, 2000, 1500001, 1);
        Lines.mark(log, 4, 2000, 0);
        Lines.abort(log, 4, 2500, 1);
        Lines.begin(log, 5, 3000, 0);
        Lines.old(log, 5, 3000, 0, 1, 0);
        Lines.end(log, 5, 3000, new int[] {0, 1, 1024, 7}, 1);
        return log;
    }

    private static void facts() {
        PauseLog log = sample();
        factsAre(log, 0, 1, 2, 1000, 1003, 2, 9216, 2000, 65536, 3456, 7168, 0, 2048, 1025, 4);
        factsAre(log, 1, 2, 3, 1010, 1020, 1, 2000, 100, 10238976, 10000, -1, -1, -1, -1, 2);
        factsAre(log, 2, 3, 1, 500, 2000, -1, -1, -1, -1, 1500001, -1, -1, -1, -1, 2);
        factsAre(log, 3, 4, 4, 2000, 2500, -1, -1, -1, -1, 500000, -1, -1, -1, -1, 2);
        factsAre(log, 4, 0, 5, 3000, 3000, 0, 0, 1, 1024, 7, -1, -1, 0, 1, 3);
    }

    private static void factsAre(PauseLog log, int i, int... due) {
        for (int what = 0; what < due.length; what++) {
            Check.same("event(" + i + ", " + what + ")", log.event(i, what), due[what]);
        }
    }

    private static void aborted() {
        abortedAfter("[2147.483s]", 2147483000);
        abortedAfter("[2147.484s]", 2147483647);
        abortedAfter("[99999.999s]", 2147483647);
        abortedAfter("[4294.968s]", 2147483647);
        abortedAfter("[0.000s]", 0);
    }

    private static void abortedAfter(String time, int took) {
        PauseLog log = new PauseLog();
        Check.line(log, "[0.000s]GC(0) Mark", 0);
        Check.line(log, time + "GC(0) Mark Abort", 1);
        Check.same("what a mark took that was aborted at " + time, log.event(0, 8), took);
    }

    private static void shown() {
        linesAre(sample(), 0, "[1.000s]GC(2) Pause Mixed (User)", "[1.000s]GC(2) Eden 7M->0K",
            "[1.000s]GC(2) Old 2M->1025K", "[1.003s]GC(2) Pause Mixed (User) 9M->2000K(64M) 3.456ms");
        linesAre(sample(), 1, "[1.010s]GC(3) Pause Full (Meta)", "[1.020s]GC(3) Pause Full (Meta) 2000K->100K(9999M) 10.000ms");
        linesAre(sample(), 2, "[0.500s]GC(1) Mark", "[2.000s]GC(1) Mark 1500.001ms");
        linesAre(sample(), 3, "[2.000s]GC(4) Mark", "[2.500s]GC(4) Mark Abort");
        linesAre(sample(), 4, "[3.000s]GC(5) Pause Young (Alloc)", "[3.000s]GC(5) Old 0K->1K",
            "[3.000s]GC(5) Pause Young (Alloc) 0K->1K(1M) 0.007ms");
    }

    private static void shownWithThePadInUse() {
        PauseLog log = new PauseLog();
        Check.line(log, "[99999.000s]GC(998) Pause Young (Alloc)", 0);
        Check.line(log, "[99999.500s]GC(998) Eden 0M->10M", 0);
        Check.line(log, "[99999.999s]GC(998) Pause Young (Alloc) 9999K->9999M(9999M) 999.999ms", 1);
        Check.type(log, "in the pad");
        linesAre(log, 0, "[99999.000s]GC(998) Pause Young (Alloc)", "[99999.000s]GC(998) Eden 0K->10M",
            "[99999.999s]GC(998) Pause Young (Alloc) 9999K->9999M(9999M) 999.999ms");
        Check.same("pad after shown", log.count(6), 10);
        Check.same("the pad stays as it was typed", log.line(), -PauseLog.SYNTAX);
        Check.same("its fault", log.diagnostic(0, 2), 0);
    }

    private static void linesAre(PauseLog log, int i, String... due) {
        Check.same("lines of event " + i, log.event(i, 13), due.length);
        for (int l = 0; l < due.length; l++) {
            int line = l;
            Check.same("shown(" + i + ", " + l + ")", Check.shown(log, i, l), due[l]);
            Check.same("behind the last character", log.shown(i, l, due[l].length()), PauseLog.NONE);
            Check.same("far behind", log.shown(i, l, Integer.MAX_VALUE), PauseLog.NONE);
            Check.noIndex("character -1", () -> log.shown(i, line, -1));
        }
        Check.noIndex("line behind the last", () -> log.shown(i, due.length, 0));
        Check.noIndex("line -1", () -> log.shown(i, -1, 0));
    }

    private static void outside() {
        PauseLog log = sample();
        int[] wrongOnes = {-1, 5, 39, 40, Integer.MAX_VALUE, Integer.MIN_VALUE};
        for (int i : wrongOnes) {
            Check.noIndex("event " + i, () -> log.event(i, 0));
            Check.noIndex("shown of event " + i, () -> log.shown(i, 0, 0));
        }
        int[] wrongPlaces = {-1, 14, Integer.MAX_VALUE, Integer.MIN_VALUE};
        for (int what : wrongPlaces) {
            Check.noIndex("event place " + what, () -> log.event(0, what));
            Check.noIndex("shown line " + what, () -> log.shown(0, what, 0));
        }
        Check.noIndex("character of the least int", () -> log.shown(0, 0, Integer.MIN_VALUE));
    }
}
