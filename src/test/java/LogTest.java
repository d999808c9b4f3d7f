/** What the Terms say of logs, events, finish() and which line belongs to what, and promises 6 to 9 at their edges. */
public final class LogTest {
    private static final int NONE = PauseLog.NONE;

    public static void main(String[] args) {
        newObject();
        logBeginsAnewBehindFinish();
        eventIsTheLastOne();
        abortedNeverWrapsAround();
        finishOfAnEmptyLog();
        finishWithAPause();
        finishWithAMark();
        finishWithBoth();
        finishLeavesThePad();
        eachLineBelongsSomewhere();
        factsOfEveryKind();
        partsThatAreThereAndEmpty();
        shownInItsOwnOrder();
        shownOfTheLongestLine();
        shownOfAnAbortThatTookTooLong();
        shownOfManyLines();
        justTwelveDiagnosticsAreKept();
        truncatedPushesOutToo();
        lineNumbersGoOnThroughAllLogs();
        usedForAllItsCalls();
        Check.end();
    }

    private static void diagnosticIs(PauseLog log, int k, int number, int line) {
        Check.same("number of diagnostic " + k, log.diagnostic(k, 0), number);
        Check.same("line of diagnostic " + k, log.diagnostic(k, 1), line);
        Check.same("fault of diagnostic " + k, log.diagnostic(k, 2), 0);
    }

    // "No events, an empty pad."
    private static void newObject() {
        PauseLog log = new PauseLog();
        Check.counts("new", log, 0, 0, 0, 0, 0, 0, 0, 0, 0, NONE, NONE);
        Check.noIndex("event", () -> log.event(0, 0));
        Check.noIndex("shown", () -> log.shown(0, 0, 0));
        Check.noIndex("diagnostic", () -> log.diagnostic(0, 0));
        Check.noState("throughput", log::throughput);
        Check.noState("rate(0)", () -> log.rate(0));
        Check.noState("rate(1)", () -> log.rate(1));
        Check.noState("percentile", () -> log.percentile(50));
        Check.same("drop", log.drop(72), 0);
        for (int b = 0; b < 24; b++) {
            Check.same("bucket " + b, log.bucket(b), 0);
        }
        for (int cause = 0; cause < 3; cause++) {
            Check.same("cause " + cause, log.ofCause(cause), 0L);
        }
        Check.same("finish", log.finish(), 0);
        Check.same("line() of the empty pad", log.line(), -PauseLog.SYNTAX);
    }

    // "A LOG goes from the beginning, or from finish(), to the next finish()."
    private static void logBeginsAnewBehindFinish() {
        PauseLog log = new PauseLog();
        for (int n = 0; n < 3; n++) {
            Lines.begin(log, 999, 99999999, 0);
            Lines.end(log, 999, 99999999, 1);
            Lines.mark(log, 999, 99999999, -PauseLog.STALE);
            Lines.mark(log, 0, 0, -PauseLog.BACK);
            log.finish();
            Lines.mark(log, 0, 0, 0);
            log.finish();
        }
        Check.counts("what was stays", log, 15, 3, 9, 6, 9, 0, 0, 0, 3, NONE, NONE);
    }

    // "AN EVENT is made, as the last one, when an END, MARKED or ABORT is taken"
    private static void eventIsTheLastOne() {
        PauseLog log = new PauseLog();
        Lines.mark(log, 0, 0, 0);
        for (int id = 1; id < 39; id++) {
            Lines.put(log, 10 * (id % 3), id, id, 0);
            Lines.put(log, 10 * (id % 3) + 1, id, id, 1);
        }
        Lines.marked(log, 0, 39, 39999, 1);
        Lines.mark(log, 39, 39, 0);
        Lines.abort(log, 39, 39, 1);
        Check.same("events", log.count(1), 40);
        for (int i = 0; i < 40; i++) {
            Check.same("kind of event " + i, log.event(i, 0), i < 38 ? (i + 1) % 3 : i == 38 ? 3 : 4);
            Check.same("id of event " + i, log.event(i, 1), i < 38 ? i + 1 : i == 38 ? 0 : 39);
        }
    }

    // "1000 * (the ABORT's time less the MARK's), but 2147483647 if that is more"
    private static void abortedNeverWrapsAround() {
        int[][] waitsAndTook = {{0, 0}, {1, 1000}, {2147483, 2147483000}, {2147484, 2147483647}, {4294967, 2147483647},
            {4294968, 2147483647}, {6442451, 2147483647}, {99999999, 2147483647}};
        for (int[] each : waitsAndTook) {
            PauseLog log = new PauseLog();
            Lines.mark(log, 0, 99999999 - each[0], 0);
            Lines.abort(log, 0, 99999999, 1);
            Check.same("took of " + each[0], log.event(0, 8), each[1]);
            Check.same("kind", log.event(0, 0), 4);
        }
    }

    // "finish(): for the pause, then for the mark that is open, a diagnostic 8 TRUNCATED; it is dropped."
    private static void finishOfAnEmptyLog() {
        PauseLog log = new PauseLog();
        Check.same("finish", log.finish(), 0);
        Check.same("and again", log.finish(), 0);
        Lines.begin(log, 0, 0, 0);
        Lines.end(log, 0, 0, 1);
        Check.same("with nothing open", log.finish(), 0);
        Check.counts("no diagnostic", log, 2, 1, 0, 2, 0, 0, 0, 0, 1, NONE, NONE);
    }

    private static void finishWithAPause() {
        PauseLog log = new PauseLog();
        for (int parts = 0; parts < 3; parts++) {
            Lines.begin(log, 7, 0, 0);
            if (parts > 0) {
                Lines.eden(log, 7, 0, 0, 0, 0);
            }
            if (parts > 1) {
                Lines.old(log, 7, 0, 0, 0, 0);
            }
            Check.same("finish", log.finish(), parts + 1);
            Check.same("diagnostics", log.count(2), parts + 1);
            Check.same("nothing is open", log.count(9), NONE);
        }
        diagnosticIs(log, 0, PauseLog.TRUNCATED, 4);
        diagnosticIs(log, 1, PauseLog.TRUNCATED, 2);
        diagnosticIs(log, 2, PauseLog.TRUNCATED, 1);
        Check.counts("all dropped", log, 6, 0, 3, 0, 6, 0, 0, 0, 0, NONE, NONE);
    }

    private static void finishWithAMark() {
        PauseLog log = new PauseLog();
        Check.line(log, "", -PauseLog.SYNTAX);
        Lines.mark(log, 7, 0, 0);
        Check.same("finish", log.finish(), 1);
        diagnosticIs(log, 0, PauseLog.TRUNCATED, 2);
        Check.counts("dropped", log, 2, 0, 2, 0, 2, 0, 0, 0, 0, NONE, NONE);
        Lines.abort(log, 7, 0, -PauseLog.UNKNOWN);
    }

    private static void finishWithBoth() {
        for (int markFirst = 0; markFirst < 2; markFirst++) {
            PauseLog log = new PauseLog();
            Lines.put(log, markFirst == 1 ? 4 : 0, 1, 0, 0);
            Lines.put(log, markFirst == 1 ? 0 : 4, 2, 0, 0);
            Lines.old(log, markFirst == 1 ? 2 : 1, 0, 0, 0, 0);
            Check.same("finish", log.finish(), 3);
            // The mark's comes last, so it is the latest, whichever began first.
            diagnosticIs(log, 0, PauseLog.TRUNCATED, markFirst == 1 ? 1 : 2);
            diagnosticIs(log, 1, PauseLog.TRUNCATED, markFirst == 1 ? 2 : 1);
            Check.counts("both dropped", log, 3, 0, 2, 0, 3, 0, 0, 0, 0, NONE, NONE);
        }
    }

    private static void finishLeavesThePad() {
        PauseLog log = new PauseLog();
        Lines.mark(log, 5, 5000, 0);
        log.write(4, 0, 0, 0, 0, 0, 0);
        log.finish();
        Check.same("pad", log.count(6), 18);
        Check.same("it is a line of the next log", log.line(), 0);
        Check.same("the open mark", log.count(10), 0);
    }

    // "EACH LINE belongs to just one event [..], or to one diagnostic [..], or to what is open."
    private static void eachLineBelongsSomewhere() {
        PauseLog log = new PauseLog();
        int[] shapes = {4, 0, 2, 2, 3, 5, 1, 1, 0, 4, 6, 3, 4, 0, 1, 5};
        int[] ids = {0, 1, 1, 1, 1, 9, 1, 1, 2, 3, 0, 2, 3, 3, 2, 3};
        int[] due = {0, 0, 0, -6, 0, -5, 1, -5, 0, -4, 1, 0, 0, -3, 1, 1};
        for (int n = 0; n < shapes.length; n++) {
            Lines.put(log, shapes[n], ids[n], n, due[n]);
            Check.same("lines", log.count(0), n + 1);
            Check.same("sum of what they belong to", log.count(3) + log.count(4) + log.count(5), n + 1);
            int ofEvents = 0;
            for (int i = 0; i < log.count(1); i++) {
                ofEvents += log.event(i, 13);
            }
            Check.same("lines of the events", log.count(3), ofEvents);
        }
        Lines.begin(log, 8, 99, 0);
        Lines.mark(log, 9, 99, 0);
        log.finish();
        Check.counts("all", log, 18, 4, 7, 11, 7, 0, 0, 99, 2, NONE, NONE);
    }

    // "NONE for marks", "NONE each if it had none"
    private static void factsOfEveryKind() {
        PauseLog log = new PauseLog();
        Lines.begin(log, 0, 1, 0);
        Lines.eden(log, 0, 2, 3, 4, 0);
        Lines.end(log, 0, 5, new int[] {6, 7, 8, 9}, 1);
        Lines.put(log, 110, 1, 10, 0);
        Lines.old(log, 1, 11, 12, 13, 0);
        Lines.put(log, 111, 1, 14, new int[] {15, 16, 17, 18}, 1);
        Lines.put(log, 220, 2, 20, 0);
        Lines.put(log, 221, 2, 21, new int[] {22, 23, 24, 25}, 1);
        Lines.mark(log, 3, 30, 0);
        Lines.marked(log, 3, 31, 32, 1);
        Lines.mark(log, 4, 40, 0);
        Lines.abort(log, 4, 41, 1);
        int[][] due = {
            {0, 0, 1, 5, 0, 6, 7, 8, 9, 3, 4, NONE, NONE, 3},
            {1, 1, 10, 14, 1, 15, 16, 17, 18, NONE, NONE, 12, 13, 3},
            {2, 2, 20, 21, 2, 22, 23, 24, 25, NONE, NONE, NONE, NONE, 2},
            {3, 3, 30, 31, NONE, NONE, NONE, NONE, 32, NONE, NONE, NONE, NONE, 2},
            {4, 4, 40, 41, NONE, NONE, NONE, NONE, 1000, NONE, NONE, NONE, NONE, 2},
        };
        for (int i = 0; i < due.length; i++) {
            for (int what = 0; what < 14; what++) {
                Check.same("event(" + i + ", " + what + ")", log.event(i, what), due[i][what]);
            }
        }
        Check.noIndex("event 5", () -> log.event(5, 0));
        Check.noIndex("event -1", () -> log.event(-1, 0));
        Check.noIndex("place 14", () -> log.event(4, 14));
        Check.noIndex("place -1", () -> log.event(4, -1));
    }

    private static void partsThatAreThereAndEmpty() {
        PauseLog log = new PauseLog();
        Lines.begin(log, 0, 0, 0);
        Lines.eden(log, 0, 0, 0, 0, 0);
        Lines.old(log, 0, 0, 0, 0, 0);
        Lines.end(log, 0, 0, 1);
        for (int what = 5; what <= 12; what++) {
            Check.same("event(0, " + what + ")", log.event(0, what), 0);
        }
        Check.same("its lines", log.event(0, 13), 4);
        Check.same("EDEN is shown", log.shown(0, 1, 14), (int) 'E');
        Check.same("OLD is shown", log.shown(0, 2, 14), (int) 'O');
    }

    // "its BEGIN or MARK, then EDEN and OLD, if it had them, with the time of the BEGIN, and its end"
    private static void shownInItsOwnOrder() {
        PauseLog log = new PauseLog();
        Lines.put(log, 210, 12, 9, 0);
        Lines.old(log, 12, 10, 1024, 0, 0);
        Lines.eden(log, 12, 11, 0, 10240, 0);
        Lines.put(log, 211, 12, 12, new int[] {1025, 10240, 10240, 3999}, 1);
        shownIs(log, 0, "[0.009s]GC(12) Pause Mixed (User)");
        shownIs(log, 1, "[0.009s]GC(12) Eden 0K->10M");
        shownIs(log, 2, "[0.009s]GC(12) Old 1M->0K");
        shownIs(log, 3, "[0.012s]GC(12) Pause Mixed (User) 1025K->10M(10M) 3.999ms");
        Check.noIndex("line 4", () -> log.shown(0, 4, 0));
    }

    /** Line l of event 0. */
    private static void shownIs(PauseLog log, int l, String due) {
        for (int k = 0; k < due.length(); k++) {
            Check.same("shown(0, " + l + ", " + k + ") of " + due, log.shown(0, l, k), (int) due.charAt(k));
        }
        Check.same("behind " + due, log.shown(0, l, due.length()), NONE);
    }

    // "NONE behind the last one of the line"
    private static void shownOfTheLongestLine() {
        PauseLog log = new PauseLog();
        int most = 10238976;
        Lines.begin(log, 999, 90000000, 0);
        Lines.eden(log, 999, 90000000, 0, most, 0);
        Lines.end(log, 999, 99999999, new int[] {most, most, most, 9999999}, 1);
        shownIs(log, 1, "[90000.000s]GC(999) Eden 0K->9999M");
        shownIs(log, 2, "[99999.999s]GC(999) Pause Young (Alloc) 9999M->9999M(9999M) 9999.999ms");
        int[] behind = {70, 71, 72, 73, 1000, Integer.MAX_VALUE};
        for (int k : behind) {
            Check.same("character " + k, log.shown(0, 2, k), NONE);
            // Also where a longer line was shown before.
            Check.same("character " + k, log.shown(0, 1, k), NONE);
        }
        Check.noIndex("character -1", () -> log.shown(0, 2, -1));
        Check.noIndex("the least character", () -> log.shown(0, 2, Integer.MIN_VALUE));
    }

    private static void shownOfAnAbortThatTookTooLong() {
        PauseLog log = new PauseLog();
        Lines.mark(log, 0, 0, 0);
        Lines.abort(log, 0, 99999999, 1);
        shownIs(log, 0, "[0.000s]GC(0) Mark");
        shownIs(log, 1, "[99999.999s]GC(0) Mark Abort");
        Check.noIndex("line 2", () -> log.shown(0, 2, 0));
    }

    // "there is no such event or line": just as many lines as the event is of
    private static void shownOfManyLines() {
        PauseLog log = new PauseLog();
        Lines.mark(log, 0, 0, 0);
        Lines.begin(log, 1, 0, 0);
        Lines.end(log, 1, 0, 1);
        Lines.begin(log, 2, 0, 0);
        Lines.old(log, 2, 0, 0, 0, 0);
        Lines.end(log, 2, 0, 1);
        Lines.marked(log, 0, 0, 0, 1);
        int[] lines = {2, 3, 2};
        for (int n = 0; n < lines.length; n++) {
            int i = n;
            Check.same("first line of event " + i, log.shown(i, 0, 0), (int) '[');
            Check.same("last line of event " + i, log.shown(i, lines[i] - 1, 0), (int) '[');
            Check.noIndex("line behind the last", () -> log.shown(i, lines[i], 0));
            Check.noIndex("line behind the last, far behind", () -> log.shown(i, lines[i], 99));
            Check.noIndex("line ahead of the first", () -> log.shown(i, -1, 0));
        }
        Check.noIndex("no such event", () -> log.shown(3, 0, 0));
        Check.noIndex("no such event ahead", () -> log.shown(-1, 0, 0));
    }

    // "0 the latest; the last 12 are kept"
    private static void justTwelveDiagnosticsAreKept() {
        for (int n = 0; n <= 30; n++) {
            PauseLog log = new PauseLog();
            for (int line = 1; line <= n; line++) {
                log.write(6, line, line, 0, 0, 0, 0);
                Check.same("line()", log.line(), -PauseLog.UNKNOWN);
            }
            int kept = Math.min(n, 12);
            for (int k = 0; k < kept; k++) {
                diagnosticIs(log, k, PauseLog.UNKNOWN, n - k);
            }
            Check.noIndex("diagnostic " + kept + " of " + n, () -> log.diagnostic(kept, 0));
            Check.same("there were more", log.count(2), n);
            Check.same("lines of them", log.count(4), n);
        }
    }

    private static void truncatedPushesOutToo() {
        PauseLog log = new PauseLog();
        for (int n = 0; n < 12; n++) {
            Check.same("line()", log.line(), -PauseLog.SYNTAX);
        }
        Lines.begin(log, 0, 0, 0);
        Lines.mark(log, 1, 0, 0);
        log.finish();
        diagnosticIs(log, 0, PauseLog.TRUNCATED, 14);
        diagnosticIs(log, 1, PauseLog.TRUNCATED, 13);
        diagnosticIs(log, 2, PauseLog.SYNTAX, 12);
        diagnosticIs(log, 11, PauseLog.SYNTAX, 3);
        Check.noIndex("diagnostic 12", () -> log.diagnostic(12, 0));
        Check.same("diagnostics", log.count(2), 14);
    }

    // "the number of its line, from 1, through all logs (1; for TRUNCATED that of its BEGIN or MARK)"
    private static void lineNumbersGoOnThroughAllLogs() {
        PauseLog log = new PauseLog();
        Check.same("line 1", log.line(), -PauseLog.SYNTAX);
        diagnosticIs(log, 0, PauseLog.SYNTAX, 1);
        log.finish();
        Lines.begin(log, 0, 5, 0);
        Lines.end(log, 0, 5, 1);
        Lines.begin(log, 0, 5, -PauseLog.STALE);
        diagnosticIs(log, 0, PauseLog.STALE, 4);
        log.finish();
        log.finish();
        Lines.begin(log, 0, 5, 0);
        Lines.eden(log, 0, 5, 0, 0, 0);
        Lines.eden(log, 0, 5, 0, 0, -PauseLog.WRONG);
        diagnosticIs(log, 0, PauseLog.WRONG, 7);
        log.finish();
        diagnosticIs(log, 0, PauseLog.TRUNCATED, 5);
        Lines.begin(log, 0, 4, 0);
        Lines.end(log, 0, 3, -PauseLog.BACK);
        diagnosticIs(log, 0, PauseLog.BACK, 9);
    }

    // "An object is used for at most 512 calls after it has been made"
    private static void usedForAllItsCalls() {
        PauseLog log = new PauseLog();
        for (int n = 0; n < 507; n++) {
            log.line();
        }
        Check.same("lines", log.count(0), 507);
        Check.same("diagnostics", log.count(2), 507);
        Check.same("lines of diagnostics", log.count(4), 507);
        Check.same("the latest", log.diagnostic(0, 1), 507);
        Check.same("the oldest that is kept", log.diagnostic(11, 1), 496);
        PauseLog logs = new PauseLog();
        for (int n = 0; n < 170; n++) {
            logs.write(0, 0, 0, 0, 0, 0, 0);
            logs.line();
            Check.same("finish", logs.finish(), 1);
        }
        Check.same("all were truncated", logs.count(2), 170);
        Check.same("the latest one's line", logs.diagnostic(0, 1), 170);
    }
}
