/** Promises 5, 6 and 9: line, finish, diagnostic. */
public final class LineTest {
    private static final String ALLOC = " Pause Young (Alloc)";

    public static void main(String[] args) {
        syntax();
        faults();
        back();
        staleAndBusy();
        unknown();
        wrongParts();
        wrongEnds();
        wrongSums();
        tooLong();
        full();
        finish();
        diagnosticsKept();
        interleaved();
        Check.end();
    }

    private static void syntax() {
        String[] lines = {
            "[0.000s]GC(0) Mark", "[99999.999s]GC(999) Mark", "[10.010s]GC(10) Pause Full (Meta)",
            "[0.000s]GC(0) Pause Mixed (User)", "[0.000s]GC(0) Pause Young (Alloc)",
        };
        for (String text : lines) {
            Check.line(new PauseLog(), text, 0);
        }
        String[] unknown = {
            "[0.000s]GC(0) Mark Abort", "[0.000s]GC(0) Mark 0.000ms", "[0.000s]GC(0) Mark 9999.999ms",
            "[0.000s]GC(0) Eden 0K->0M", "[0.000s]GC(0) Old 9999M->9999K",
            "[0.000s]GC(0) Pause Full (User) 1024K->0M(1M) 10.000ms",
        };
        for (String text : unknown) {
            Check.line(new PauseLog(), text, -PauseLog.UNKNOWN);
        }
    }

    // Each text stands with a bar where its fault is.
    private static void faults() {
        String[] texts = {
            "|", "|x", "| [", "[|", "[|.", "[|-1.000s]", "[0|0.000s]", "[0|1.000s]", "[12345|6.000s]", "[1|", "[1|s",
            "[1.|", "[1.|s", "[1.00|s", "[1.000|", "[1.000|0s", "[1.000|ms", "[1.000s|", "[1.000s|)", "[1.000s]|",
            "[1.000s]| GC(1) Mark", "[1.000s]|gc", "[1.000s]G|c", "[1.000s]GC|", "[1.000s]GC|[", "[1.000s]GC(|",
            "[1.000s]GC(|)", "[1.000s]GC(0|1)", "[1.000s]GC(999|9)", "[1.000s]GC(1|", "[1.000s]GC(1)|",
            "[1.000s]GC(1)|Mark", "[1.000s]GC(1) |", "[1.000s]GC(1) | Mark", "[1.000s]GC(1) |mark", "[1.000s]GC(1) |X",
            "[1.000s]GC(1) Mar|", "[1.000s]GC(1) Mar|s", "[1.000s]GC(1) Mark|s", "[1.000s]GC(1) Mark |",
            "[1.000s]GC(1) Mark | ", "[1.000s]GC(1) Mark |B", "[1.000s]GC(1) Mark A|", "[1.000s]GC(1) Mark A|n",
            "[1.000s]GC(1) Mark Abort|s", "[1.000s]GC(1) Mark Abort| ", "[1.000s]GC(1) Mark 1|", "[1.000s]GC(1) Mark 0|0.000ms",
            "[1.000s]GC(1) Mark 1234|5.000ms", "[1.000s]GC(1) Mark 1.00|ms", "[1.000s]GC(1) Mark 1.000|s",
            "[1.000s]GC(1) Mark 1.000m|", "[1.000s]GC(1) Mark 1.000ms|s", "[1.000s]GC(1) Eden|", "[1.000s]GC(1) Eden |K",
            "[1.000s]GC(1) Eden 0|0K->0K", "[1.000s]GC(1) Eden 1234|5K->0K", "[1.000s]GC(1) Eden 1|G->0K",
            "[1.000s]GC(1) Eden 1|k->0K", "[1.000s]GC(1) Eden 1K|>0K", "[1.000s]GC(1) Eden 1K-|", "[1.000s]GC(1) Eden 1K->|",
            "[1.000s]GC(1) Eden 1K->0|", "[1.000s]GC(1) Eden 1K->0M|(2M)", "[1.000s]GC(1) O|", "[1.000s]GC(1) O|LD", "[1.000s]GC(1) Old|",
            "[1.000s]GC(1) Pause|", "[1.000s]GC(1) Pause |(Alloc)", "[1.000s]GC(1) Pause M|arked",
            "[1.000s]GC(1) Pause F|all", "[1.000s]GC(1) Pause Full|", "[1.000s]GC(1) Pause Full|(Alloc)",
            "[1.000s]GC(1) Pause Full (|)", "[1.000s]GC(1) Pause Full (M|ixed)", "[1.000s]GC(1) Pause Full (User|",
            "[1.000s]GC(1) Pause Full (Alloc)|.", "[1.000s]GC(1) Pause Full (Alloc) |",
            "[1.000s]GC(1) Pause Full (Alloc) 1K->1K|", "[1.000s]GC(1) Pause Full (Alloc) 1K->1K| (1K) 1.000ms",
            "[1.000s]GC(1) Pause Full (Alloc) 1K->1K(|", "[1.000s]GC(1) Pause Full (Alloc) 1K->1K(1|)",
            "[1.000s]GC(1) Pause Full (Alloc) 1K->1K(1K)|", "[1.000s]GC(1) Pause Full (Alloc) 1K->1K(1K) |",
            "[1.000s]GC(1) Pause Full (Alloc) 1K->1K(1K) | 1.000ms", "[1.000s]GC(1) Pause Full (Alloc) 1K->1K(1K) 1.000ms|.",
        };
        for (String marked : texts) {
            int fault = marked.indexOf('|');
            PauseLog log = new PauseLog();
            Check.line(log, marked.substring(0, fault).concat(marked.substring(fault + 1)), -PauseLog.SYNTAX);
            Check.same("number of " + marked, log.diagnostic(0, 0), PauseLog.SYNTAX);
            Check.same("line of " + marked, log.diagnostic(0, 1), 1);
            Check.same("fault of " + marked, log.diagnostic(0, 2), fault);
            Check.counts(marked, log, 1, 0, 1, 0, 1, 0, 0, 0, 0, PauseLog.NONE, PauseLog.NONE);
        }
    }

    private static void back() {
        PauseLog log = new PauseLog();
        Check.line(log, "[5.000s]GC(5) Mark", 0);
        Check.line(log, "[6.000s]GC(5) Mark", -PauseLog.STALE);
        Check.line(log, "[5.999s]GC(6)" + ALLOC, -PauseLog.BACK);
        Check.line(log, "[5.999s]GC(5) Mark", -PauseLog.BACK);
        Check.line(log, "[9.000s]GC(6) Mark x", -PauseLog.SYNTAX);
        Check.line(log, "[6.000s]GC(6)" + ALLOC, 0);
        Check.line(log, "[7.000s]GC(7) Old 1K->1K", -PauseLog.UNKNOWN);
        Check.line(log, "[6.500s]GC(5) Mark Abort", -PauseLog.BACK);
        Check.same("fault of BACK", log.diagnostic(0, 2), 0);
        log.finish();
        Check.line(log, "[0.000s]GC(0) Mark", 0);
    }

    private static void staleAndBusy() {
        PauseLog log = new PauseLog();
        Check.line(log, "[0.000s]GC(3) Mark", 0);
        Check.line(log, "[0.000s]GC(3)" + ALLOC, -PauseLog.STALE);
        Check.line(log, "[0.000s]GC(2)" + ALLOC, -PauseLog.STALE);
        Check.line(log, "[0.000s]GC(2) Mark", -PauseLog.STALE);
        Check.line(log, "[0.000s]GC(9) Mark", -PauseLog.BUSY);
        Check.line(log, "[0.000s]GC(4)" + ALLOC, 0);
        Check.line(log, "[0.000s]GC(4)" + ALLOC, -PauseLog.STALE);
        Check.line(log, "[0.000s]GC(5)" + ALLOC, -PauseLog.BUSY);
        Check.line(log, "[0.000s]GC(4)" + ALLOC + " 0K->0K(0K) 0.000ms", 1);
        Check.line(log, "[0.000s]GC(5)" + ALLOC, 0);
        Check.line(log, "[0.000s]GC(5)" + ALLOC + " 0K->0K(0K) 0.000ms", 1);
        Check.line(log, "[0.000s]GC(5)" + ALLOC, -PauseLog.STALE);
        log.finish();
        Check.line(log, "[0.000s]GC(0)" + ALLOC, 0);
    }

    private static void unknown() {
        PauseLog log = new PauseLog();
        Check.line(log, "[0.000s]GC(3) Mark", 0);
        Check.line(log, "[0.000s]GC(3) Eden 0K->0K", -PauseLog.UNKNOWN);
        Check.line(log, "[0.000s]GC(4)" + ALLOC, 0);
        String[] wrongIds = {
            "[0.000s]GC(3) Eden 0K->0K", "[0.000s]GC(3) Old 0K->0K", "[0.000s]GC(3)" + ALLOC + " 0K->0K(0K) 0.000ms",
            "[0.000s]GC(4) Mark 0.000ms", "[0.000s]GC(4) Mark Abort", "[0.000s]GC(5) Eden 0K->0K",
        };
        for (String text : wrongIds) {
            Check.line(log, text, -PauseLog.UNKNOWN);
        }
        Check.line(log, "[0.000s]GC(3) Mark 0.999ms", 1);
        Check.line(log, "[0.000s]GC(3) Mark 0.999ms", -PauseLog.UNKNOWN);
        Check.line(log, "[0.000s]GC(3) Mark Abort", -PauseLog.UNKNOWN);
    }

    private static void wrongParts() {
        PauseLog log = new PauseLog();
        Check.line(log, "[0.000s]GC(0)" + ALLOC, 0);
        Check.line(log, "[0.000s]GC(0) Old 0K->0K", 0);
        Check.line(log, "[0.000s]GC(0) Old 0K->0K", -PauseLog.WRONG);
        Check.line(log, "[0.000s]GC(0) Eden 0K->0K", 0);
        Check.line(log, "[0.000s]GC(0) Eden 1K->1K", -PauseLog.WRONG);
        Check.line(log, "[0.000s]GC(0) Old 1K->1K", -PauseLog.WRONG);
        Check.same("lines of the open pause", log.count(5), 3);
        Check.line(log, "[0.000s]GC(0)" + ALLOC + " 0K->0K(0K) 0.000ms", 1);
        Check.same("eden stays", log.event(0, 9), 0);
        Check.same("old stays", log.event(0, 12), 0);
    }

    private static void wrongEnds() {
        PauseLog log = new PauseLog();
        Check.line(log, "[0.000s]GC(0) Pause Mixed (Meta)", 0);
        Check.line(log, "[0.000s]GC(0) Pause Young (Meta) 1K->1K(1K) 0.000ms", -PauseLog.WRONG);
        Check.line(log, "[0.000s]GC(0) Pause Full (Meta) 1K->1K(1K) 0.000ms", -PauseLog.WRONG);
        Check.line(log, "[0.000s]GC(0) Pause Mixed (Alloc) 1K->1K(1K) 0.000ms", -PauseLog.WRONG);
        Check.line(log, "[0.000s]GC(0) Pause Mixed (User) 1K->1K(1K) 0.000ms", -PauseLog.WRONG);
        Check.line(log, "[0.000s]GC(0) Pause Mixed (Meta) 2K->1K(1K) 0.000ms", -PauseLog.WRONG);
        Check.line(log, "[0.000s]GC(0) Pause Mixed (Meta) 1K->2K(1K) 0.000ms", -PauseLog.WRONG);
        Check.line(log, "[0.000s]GC(0) Pause Mixed (Meta) 1025K->0K(1M) 0.000ms", -PauseLog.WRONG);
        Check.line(log, "[0.000s]GC(0) Pause Mixed (Meta) 1024K->1M(1M) 0.000ms", 1);
    }

    private static void wrongSums() {
        endAfter("", "", "0K->0K(0K)", 1);
        endAfter("Eden 5K->3K", "", "4K->3K(9K)", -PauseLog.WRONG);
        endAfter("Eden 5K->3K", "", "5K->2K(9K)", -PauseLog.WRONG);
        endAfter("Eden 5K->3K", "", "5K->3K(9K)", 1);
        endAfter("Old 5K->3K", "", "4K->3K(9K)", -PauseLog.WRONG);
        endAfter("Old 5K->3K", "", "5K->2K(9K)", -PauseLog.WRONG);
        endAfter("Old 5K->3K", "", "5K->3K(9K)", 1);
        endAfter("Old 2K->3K", "Eden 5K->1K", "6K->4K(9K)", -PauseLog.WRONG);
        endAfter("Old 2K->3K", "Eden 5K->1K", "7K->3K(9K)", -PauseLog.WRONG);
        endAfter("Old 2K->3K", "Eden 5K->1K", "7K->4K(9K)", 1);
    }

    private static void endAfter(String first, String second, String sizes, int due) {
        PauseLog log = new PauseLog();
        Check.line(log, "[0.000s]GC(0)" + ALLOC, 0);
        if (!first.isEmpty()) {
            Check.line(log, "[0.000s]GC(0) " + first, 0);
        }
        if (!second.isEmpty()) {
            Check.line(log, "[0.000s]GC(0) " + second, 0);
        }
        Check.line(log, "[0.000s]GC(0)" + ALLOC + " " + sizes + " 0.000ms", due);
    }

    private static void tooLong() {
        PauseLog log = new PauseLog();
        Check.line(log, "[1.000s]GC(0)" + ALLOC, 0);
        Check.line(log, "[1.000s]GC(0) Eden 0K->0K", 0);
        Check.line(log, "[1.000s]GC(0)" + ALLOC + " 0K->0K(0K) 1.000ms", -PauseLog.WRONG);
        Check.line(log, "[1.000s]GC(0)" + ALLOC + " 0K->0K(0K) 0.999ms", 1);
        Check.line(log, "[1.000s]GC(1) Mark", 0);
        Check.line(log, "[1.002s]GC(1) Mark 3.000ms", -PauseLog.WRONG);
        Check.line(log, "[1.002s]GC(1) Mark 2.999ms", 1);
        log.finish();
        Check.line(log, "[0.000s]GC(0)" + ALLOC, 0);
        Check.line(log, "[0.000s]GC(1) Mark", 0);
        // The milliseconds between, turned to microseconds, are more than an int holds.
        Check.line(log, "[99999.999s]GC(0)" + ALLOC + " 0K->0K(0K) 9999.999ms", 1);
        Check.line(log, "[99999.999s]GC(1) Mark 9999.999ms", 1);
    }

    private static void full() {
        PauseLog log = new PauseLog();
        for (int n = 0; n < 40; n++) {
            log.write(4, n, n, 0, 0, 0, 0);
            Check.same("mark " + n, log.line(), 0);
            log.write(6, n, n, 0, 0, 0, 0);
            Check.same("abort " + n, log.line(), 1);
        }
        Check.line(log, "[1.000s]GC(40) Mark", 0);
        Check.line(log, "[1.000s]GC(41)" + ALLOC, 0);
        Check.line(log, "[1.000s]GC(41) Eden 1K->1K", 0);
        Check.line(log, "[1.000s]GC(40) Mark Abort", -PauseLog.FULL);
        Check.line(log, "[1.000s]GC(40) Mark 0.000ms", -PauseLog.FULL);
        Check.line(log, "[1.000s]GC(40) Mark 1.000ms", -PauseLog.WRONG);
        Check.line(log, "[1.000s]GC(39) Mark Abort", -PauseLog.UNKNOWN);
        Check.line(log, "[1.000s]GC(41)" + ALLOC + " 1K->1K(1K) 0.000ms", -PauseLog.FULL);
        Check.line(log, "[1.000s]GC(41)" + ALLOC + " 0K->1K(1K) 0.000ms", -PauseLog.WRONG);
        Check.counts("full", log, 89, 40, 6, 80, 6, 3, 0, 1000, 0, 41, 40);
        Check.noIndex("event 40", () -> log.event(40, 0));
        Check.same("finish of a full log", log.finish(), 3);
        Check.counts("full, finished", log, 89, 40, 8, 80, 9, 0, 0, 1000, 0, PauseLog.NONE, PauseLog.NONE);
    }

    private static void finish() {
        PauseLog log = new PauseLog();
        Check.line(log, "nonsense", -PauseLog.SYNTAX);
        Check.line(log, "[1.000s]GC(1) Mark", 0);
        Check.line(log, "[1.000s]GC(2)" + ALLOC, 0);
        Check.line(log, "[1.000s]GC(2) Old 1K->1K", 0);
        Check.line(log, "[3.000s]GC(2) Eden 1K->1K", 0);
        Check.type(log, "[0.5");
        Check.same("finish", log.finish(), 4);
        Check.counts("finished", log, 5, 0, 3, 0, 5, 0, 4, 2000, 0, PauseLog.NONE, PauseLog.NONE);
        diagnosticIs(log, 0, PauseLog.TRUNCATED, 2, 0);
        diagnosticIs(log, 1, PauseLog.TRUNCATED, 3, 0);
        diagnosticIs(log, 2, PauseLog.SYNTAX, 1, 0);
        Check.same("finish again", log.finish(), 0);
        Check.line(log, "00s]GC(0) Mark", 0);
        Check.line(log, "[0.500s]GC(0) Mark Abort", 1);
        Check.same("finish with nothing open", log.finish(), 0);
        Check.counts("nothing open", log, 7, 1, 3, 2, 5, 0, 0, 2000, 0, PauseLog.NONE, PauseLog.NONE);
        Check.line(log, "[0.100s]GC(0)" + ALLOC, 0);
        Check.same("finish with a pause", log.finish(), 1);
        diagnosticIs(log, 0, PauseLog.TRUNCATED, 8, 0);
    }

    private static void diagnosticIs(PauseLog log, int k, int number, int line, int fault) {
        Check.same("number of diagnostic " + k, log.diagnostic(k, 0), number);
        Check.same("line of diagnostic " + k, log.diagnostic(k, 1), line);
        Check.same("fault of diagnostic " + k, log.diagnostic(k, 2), fault);
    }

    private static void diagnosticsKept() {
        for (int made = 1; made <= 30; made++) {
            PauseLog log = new PauseLog();
            for (int n = 1; n <= made; n++) {
                Check.line(log, "[0.000s]GC(".substring(0, n % 10), -PauseLog.SYNTAX);
            }
            Check.same("diagnostics", log.count(2), made);
            int kept = Math.min(made, 12);
            for (int k = 0; k < kept; k++) {
                diagnosticIs(log, k, PauseLog.SYNTAX, made - k, (made - k) % 10);
            }
            Check.noIndex("diagnostic behind the last", () -> log.diagnostic(kept, 0));
            Check.noIndex("diagnostic -1", () -> log.diagnostic(-1, 0));
            Check.noIndex("what -1", () -> log.diagnostic(0, -1));
            Check.noIndex("what 3", () -> log.diagnostic(0, 3));
            Check.noIndex("diagnostic of the greatest int", () -> log.diagnostic(Integer.MAX_VALUE, 0));
            Check.noIndex("diagnostic of the least int", () -> log.diagnostic(Integer.MIN_VALUE, 0));
        }
    }

    private static void interleaved() {
        PauseLog log = new PauseLog();
        Check.line(log, "[0.000s]GC(0) Mark", 0);
        Check.line(log, "[0.100s]GC(1)" + ALLOC, 0);
        Check.line(log, "[0.101s]GC(1)" + ALLOC + " 2M->1M(4M) 1.000ms", 1);
        Check.line(log, "[0.200s]GC(2)" + ALLOC, 0);
        Check.line(log, "[0.200s]GC(2) Eden 1K->0K", 0);
        Check.line(log, "[0.201s]GC(0) Mark 200.000ms", 1);
        Check.line(log, "[0.201s]GC(3) Mark", 0);
        Check.line(log, "[0.202s]GC(2)" + ALLOC + " 2M->1M(4M) 2.000ms", 1);
        Check.line(log, "[0.300s]GC(3) Mark Abort", 1);
        Check.counts("interleaved", log, 9, 4, 0, 9, 0, 0, 0, 300, 2, PauseLog.NONE, PauseLog.NONE);
        int[] ids = {1, 0, 2, 3};
        int[] kinds = {0, 3, 0, 4};
        for (int i = 0; i < ids.length; i++) {
            Check.same("id of event " + i, log.event(i, 1), ids[i]);
            Check.same("kind of event " + i, log.event(i, 0), kinds[i]);
        }
    }
}
