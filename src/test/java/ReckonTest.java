/** Promises 10 to 15: throughput, rate, percentile, bucket, ofCause, count. */
public final class ReckonTest {
    public static void main(String[] args) {
        throughput();
        allocated();
        promoted();
        wrongStates();
        percentile();
        bucket();
        ofCause();
        count();
        spanOfManyLogs();
        spanOfNoTime();
        spanOnlyOfLinesThatCount();
        spanWhoseLowestBitsAreZero();
        spanWhoseLowestBitsAreBelowZero();
        throughputOfGreatNumbers();
        allocatedOnlyBetweenPausesOfALog();
        allocatedByEventsThatWereMade();
        allocatedOfGreatNumbers();
        promotedOnlyByEndedPauses();
        promotedOfGreatNumbers();
        percentilesOfAnyMany();
        percentileOfTheSame();
        bucketsOfAll();
        causesOfAll();
        countsAtTheirEdges();
        Check.end();
    }

    private static void pause(PauseLog log, int id, int begin, int end, int before, int after, int took) {
        log.write(0, id, begin, 0, 0, 0, 0);
        Check.same("begin of " + id, log.line(), 0);
        log.write(1, id, end, before, after, 10238976, took);
        Check.same("end of " + id, log.line(), 1);
    }

    private static void throughput() {
        PauseLog log = new PauseLog();
        pause(log, 0, 1000, 1003, 5, 5, 3000);
        Check.same("all time was paused", log.throughput(), 0.0);
        Check.line(log, "[1.010s]GC(1) Mark", 0);
        Check.same("later lines count", log.throughput(), 1.0 - 3000.0 / 10000.0);
        Check.line(log, "[1.020s]GC(1) Mark 10.000ms", 1);
        Check.same("marks are no pauses", log.throughput(), 1.0 - 3000.0 / 20000.0);
        Check.line(log, "[1.030s]GC(7) Mark Abort", -PauseLog.UNKNOWN);
        Check.same("diagnostics have a time", log.throughput(), 1.0 - 3000.0 / 30000.0);
        Check.line(log, "[0.500s]GC(7) Mark", -PauseLog.BACK);
        Check.line(log, "[9.500s]GC(7) Mrak", -PauseLog.SYNTAX);
        Check.same("but for SYNTAX and BACK", log.throughput(), 1.0 - 3000.0 / 30000.0);
        log.finish();
        Check.same("finish changes nothing", log.throughput(), 1.0 - 3000.0 / 30000.0);
        pause(log, 0, 7, 8, 5, 5, 1999);
        Check.same("sums over the logs", log.throughput(), 1.0 - 4999.0 / 31000.0);
        PauseLog below = new PauseLog();
        pause(below, 0, 0, 1, 5, 5, 1999);
        Check.same("throughput below 0", below.throughput(), 1.0 - 1999.0 / 1000.0);
    }

    private static void allocated() {
        PauseLog log = new PauseLog();
        pause(log, 0, 100, 110, 50, 20, 1);
        Check.noState("rate of one pause", () -> log.rate(0));
        Check.line(log, "[0.110s]GC(1) Mark", 0);
        pause(log, 2, 120, 130, 90, 30, 1);
        Check.line(log, "[0.131s]GC(1) Mark Abort", 1);
        Check.same("rate of two", log.rate(0), 70.0 / 10.0);
        pause(log, 3, 150, 150, 25, 25, 1);
        Check.same("less may be there than was left", log.rate(0), 65.0 / 30.0);
        log.finish();
        pause(log, 0, 0, 5, 9000, 1000, 1);
        Check.same("not from log to log", log.rate(0), 65.0 / 30.0);
        pause(log, 1, 5, 6, 1007, 0, 1);
        Check.same("but in each log", log.rate(0), 72.0 / 30.0);
        PauseLog gone = new PauseLog();
        pause(gone, 0, 0, 0, 100, 100, 1);
        pause(gone, 1, 4, 4, 0, 0, 1);
        Check.same("rate below 0", gone.rate(0), -25.0);
        PauseLog close = new PauseLog();
        pause(close, 0, 0, 1, 0, 0, 1);
        pause(close, 1, 1, 2, 100, 0, 1);
        Check.noState("no time between", () -> close.rate(0));
    }

    private static void promoted() {
        PauseLog log = new PauseLog();
        Check.line(log, "[0.000s]GC(0) Pause Young (Alloc)", 0);
        Check.line(log, "[0.000s]GC(0) Old 10K->40K", 0);
        Check.line(log, "[0.000s]GC(0) Pause Young (Alloc) 40K->40K(40K) 0.000ms", 1);
        Check.noState("promoted in no time", () -> log.rate(1));
        Check.line(log, "[0.007s]GC(1) Pause Young (Alloc)", 0);
        Check.line(log, "[0.007s]GC(1) Old 40K->35K", 0);
        Check.same("an open pause does not count", log.rate(1), 30.0 / 7.0);
        Check.line(log, "[0.007s]GC(1) Pause Young (Alloc) 40K->40K(40K) 0.000ms", 1);
        Check.same("two pauses", log.rate(1), 25.0 / 7.0);
        pause(log, 2, 9, 10, 9000, 1, 0);
        Check.same("without an OLD nothing is promoted", log.rate(1), 25.0 / 10.0);
        log.finish();
        Check.line(log, "[0.000s]GC(0) Pause Young (Alloc)", 0);
        Check.line(log, "[0.000s]GC(0) Old 100K->0K", 0);
        Check.line(log, "[0.001s]GC(0) Pause Young (Alloc) 100K->0K(100K) 0.000ms", 1);
        Check.same("rate below 0", log.rate(1), -75.0 / 11.0);
        PauseLog fromNone = new PauseLog();
        Check.line(fromNone, "[0.000s]GC(0) Pause Young (Alloc)", 0);
        Check.line(fromNone, "[0.000s]GC(0) Old 0K->6K", 0);
        Check.line(fromNone, "[0.002s]GC(0) Pause Young (Alloc) 6K->6K(6K) 0.000ms", 1);
        Check.same("an OLD that was empty before", fromNone.rate(1), 3.0);
    }

    private static void wrongStates() {
        PauseLog log = new PauseLog();
        Check.noState("throughput of nothing", log::throughput);
        Check.noState("rate(0) of nothing", () -> log.rate(0));
        Check.noState("rate(1) of nothing", () -> log.rate(1));
        Check.noArgument("rate(-1)", () -> log.rate(-1));
        Check.noArgument("rate(2)", () -> log.rate(2));
        Check.noState("percentile of nothing", () -> log.percentile(1));
        Check.line(log, "[5.000s]GC(0) Mark", 0);
        Check.noState("throughput of one time", log::throughput);
        Check.line(log, "[5.000s]GC(0) Mark 0.000ms", 1);
        Check.noState("percentile of a mark", () -> log.percentile(100));
        log.finish();
        Check.line(log, "[9.000s]GC(0) Mark", 0);
        Check.noState("throughput of two logs of one time each", log::throughput);
        Check.line(log, "[9.001s]GC(0) Mark Abort", 1);
        Check.same("throughput without pauses", log.throughput(), 1.0);
        Check.same("nothing promoted", log.rate(1), 0.0);
        pause(log, 1, 9001, 9001, 0, 0, 0);
        Check.noArgument("rate(2) with pauses", () -> log.rate(2));
    }

    private static void percentile() {
        PauseLog log = new PauseLog();
        int[] took = {700, 100, 300, 300, 999, 0, 500};
        int[] sorted = {0, 100, 300, 300, 500, 700, 999};
        for (int n = 0; n < took.length; n++) {
            pause(log, n, 10 * n, 10 * n + 1, 0, 0, took[n]);
        }
        Check.line(log, "[1.000s]GC(20) Mark", 0);
        Check.line(log, "[1.001s]GC(20) Mark 0.001ms", 1);
        for (int p = 1; p <= 100; p++) {
            int place = (p * sorted.length + 99) / 100;
            Check.same("percentile(" + p + ")", log.percentile(p), sorted[place - 1]);
        }
        int[] outside = {0, 101, -1, Integer.MAX_VALUE, Integer.MIN_VALUE};
        for (int p : outside) {
            Check.noArgument("percentile(" + p + ")", () -> log.percentile(p));
        }
        Check.noArgument("percentile(0) of nothing", () -> new PauseLog().percentile(0));
        PauseLog one = new PauseLog();
        pause(one, 0, 0, 9999, 0, 0, 9999999);
        Check.same("percentile(1) of one", one.percentile(1), 9999999);
        Check.same("percentile(100) of one", one.percentile(100), 9999999);
    }

    private static void bucket() {
        for (int b = 0; b < 24; b++) {
            int low = 1 << b;
            inBucket(low, b);
            inBucket(Math.min(2 * low - 1, 9999999), b);
        }
        inBucket(0, 0);
        PauseLog log = new PauseLog();
        pause(log, 0, 0, 9, 0, 0, 1);
        pause(log, 1, 9, 9, 0, 0, 0);
        pause(log, 2, 9, 9, 0, 0, 2);
        Check.line(log, "[0.009s]GC(3) Mark", 0);
        Check.line(log, "[0.009s]GC(3) Mark 0.001ms", 1);
        Check.same("two in bucket 0", log.bucket(0), 2);
        Check.same("one in bucket 1", log.bucket(1), 1);
        int[] outside = {-1, 24, 31, 32, Integer.MAX_VALUE, Integer.MIN_VALUE};
        for (int b : outside) {
            Check.noIndex("bucket(" + b + ")", () -> log.bucket(b));
        }
    }

    private static void inBucket(int took, int due) {
        PauseLog log = new PauseLog();
        pause(log, 0, 0, 99999, 0, 0, took);
        for (int b = 0; b < 24; b++) {
            Check.same(took + " in bucket " + b, log.bucket(b), b == due ? 1 : 0);
        }
    }

    private static void ofCause() {
        PauseLog log = new PauseLog();
        int id = 0;
        for (int cause = 0; cause < 3; cause++) {
            for (int kind = 0; kind < 3; kind++) {
                log.write(10 * kind + 100 * cause, id, 10000 * id, 0, 0, 0, 0);
                Check.same("begin", log.line(), 0);
                log.write(1 + 10 * kind + 100 * cause, id, 10000 * id + 10000, 0, 0, 0, 9999990 + cause);
                Check.same("end", log.line(), 1);
                id++;
            }
        }
        Check.line(log, "[500.000s]GC(20) Mark", 0);
        Check.line(log, "[501.000s]GC(20) Mark 1.000ms", 1);
        for (int cause = 0; cause < 3; cause++) {
            Check.same("ofCause(" + cause + ")", log.ofCause(cause), 3L * (9999990 + cause));
        }
        int[] outside = {-1, 3, Integer.MAX_VALUE, Integer.MIN_VALUE};
        for (int cause : outside) {
            Check.noIndex("ofCause(" + cause + ")", () -> log.ofCause(cause));
        }
        Check.same("of no pause", new PauseLog().ofCause(0), 0L);
    }

    private static void count() {
        PauseLog log = new PauseLog();
        int none = PauseLog.NONE;
        Check.line(log, "[1.000s]GC(3) Mark", 0);
        Check.counts("a mark", log, 1, 0, 0, 0, 0, 1, 0, 0, 0, none, 3);
        Check.line(log, "[1.500s]GC(4) Pause Young (Alloc)", 0);
        Check.line(log, "[1.500s]GC(4) Eden 0K->0K", 0);
        Check.counts("a pause too", log, 3, 0, 0, 0, 0, 3, 0, 500, 0, 4, 3);
        Check.line(log, "[2.000s]GC(4) Eden 0K->0K", -PauseLog.WRONG);
        Check.line(log, "[0.000s]GC(4) Eden 0K->0K", -PauseLog.BACK);
        Check.type(log, "[2");
        Check.counts("diagnostics", log, 5, 0, 2, 0, 2, 3, 2, 1000, 0, 4, 3);
        Check.line(log, ".250s]GC(4) Pause Young (Alloc) 0K->0K(0K) 0.000ms", 1);
        Check.counts("an event", log, 6, 1, 2, 3, 2, 1, 0, 1250, 1, none, 3);
        Check.line(log, "[2.250s]GC(3) Mark Abort", 1);
        Check.counts("two events", log, 7, 2, 2, 5, 2, 0, 0, 1250, 1, none, none);
        int[] outside = {-1, 11, Integer.MAX_VALUE, Integer.MIN_VALUE};
        for (int what : outside) {
            Check.noIndex("count(" + what + ")", () -> log.count(what));
        }
    }

    private static void spanOfManyLogs() {
        PauseLog log = new PauseLog();
        long span = 0;
        for (int n = 0; n < 50; n++) {
            log.write(4, 0, 0, 0, 0, 0, 0);
            log.line();
            log.write(4, 0, 99999999, 0, 0, 0, 0);
            Check.same("stale", log.line(), -PauseLog.STALE);
            span += 99999999;
            Check.same("span", log.count(7), (int) span);
            log.finish();
            Check.same("span, finished", log.count(7), (int) span);
        }
        pause(log, 0, 0, 1, 0, 0, 1000);
        Check.same("throughput of a long span", log.throughput(), 1.0 - 1000.0 / (1000.0 * (span + 1)));
    }

    // "SPAN: of a log, the greatest less the first of the times"
    private static void spanOfNoTime() {
        PauseLog log = new PauseLog();
        spanIsNone("a new object", log);
        log.finish();
        spanIsNone("an empty log", log);
        Lines.mark(log, 0, 99999999, 0);
        spanIsNone("one line", log);
        Lines.abort(log, 0, 99999999, 1);
        spanIsNone("two at one time", log);
        log.finish();
        Lines.mark(log, 0, 0, 0);
        log.finish();
        spanIsNone("from log to log", log);
        Lines.mark(log, 0, 7, 0);
        Lines.abort(log, 0, 8, 1);
        Check.same("the least span", log.count(7), 1);
        Check.same("throughput", log.throughput(), 1.0);
        Check.same("rate(1)", log.rate(1), 0.0);
    }

    private static void spanIsNone(String what, PauseLog log) {
        Check.same("span of " + what, log.count(7), 0);
        Check.noState("throughput of " + what, log::throughput);
        Check.noState("rate(1) of " + what, () -> log.rate(1));
    }

    // "the times of lines that were neither SYNTAX nor BACK": all others count, taken or not
    private static void spanOnlyOfLinesThatCount() {
        PauseLog log = new PauseLog();
        Check.line(log, "[1.000s]GC(0) Mark.", -PauseLog.SYNTAX);
        Lines.abort(log, 0, 2000, -PauseLog.UNKNOWN);
        Check.same("the first that counts", log.count(7), 0);
        Lines.mark(log, 5, 1000, -PauseLog.BACK);
        Check.same("BACK", log.count(7), 0);
        Lines.mark(log, 5, 2001, 0);
        Check.same("taken", log.count(7), 1);
        Lines.mark(log, 5, 2003, -PauseLog.STALE);
        Check.same("STALE", log.count(7), 3);
        Lines.mark(log, 6, 2007, -PauseLog.BUSY);
        Check.same("BUSY", log.count(7), 7);
        Lines.marked(log, 5, 2015, 9999999, -PauseLog.WRONG);
        Check.same("WRONG", log.count(7), 15);
        Check.line(log, "[9.000s]GC(0) Mark.", -PauseLog.SYNTAX);
        Lines.mark(log, 9, 2014, -PauseLog.BACK);
        Check.same("SYNTAX and BACK", log.count(7), 15);
        log.finish();
        Check.same("TRUNCATED", log.count(7), 15);
        Lines.events(log, 40);
        Lines.mark(log, 40, 0, 0);
        Lines.abort(log, 40, 31, -PauseLog.FULL);
        Check.same("FULL", log.count(7), 46);
    }

    /** Logs of marks that are dropped, until SPAN is the one that is wanted. */
    private static void addSpan(PauseLog log, long span) {
        long left = span;
        while (left > 0) {
            int part = (int) Math.min(left, 99999999);
            Lines.mark(log, 0, 0, 0);
            Lines.mark(log, 0, part, -PauseLog.STALE);
            log.finish();
            left -= part;
        }
    }

    // "7 SPAN (its lowest 32 bits)"
    private static void spanWhoseLowestBitsAreZero() {
        PauseLog log = new PauseLog();
        Lines.begin(log, 0, 0, 0);
        Lines.old(log, 0, 0, 0, 8, 0);
        Lines.end(log, 0, 1, new int[] {8, 8, 8, 1024}, 1);
        log.finish();
        addSpan(log, (1L << 32) - 1);
        Check.same("2 to the 32", log.count(7), 0);
        Check.same("throughput", log.throughput(), 1.0 - 1024.0 / (1000.0 * 4294967296.0));
        Check.same("rate(1)", log.rate(1), 8.0 / 4294967296.0);
        addSpan(log, 5);
        Check.same("5 more", log.count(7), 5);
    }

    private static void spanWhoseLowestBitsAreBelowZero() {
        PauseLog log = new PauseLog();
        addSpan(log, 2147483647L);
        Check.same("the greatest int", log.count(7), Integer.MAX_VALUE);
        addSpan(log, 1);
        Check.same("the least int", log.count(7), Integer.MIN_VALUE);
        addSpan(log, 2147483647L);
        Check.same("-1", log.count(7), -1);
        Check.same("throughput", log.throughput(), 1.0);
    }

    // "1.0 less (the sum of what the pauses took divided by 1000 * SPAN)"
    private static void throughputOfGreatNumbers() {
        PauseLog log = new PauseLog();
        for (int n = 0; n < 40; n++) {
            Lines.begin(log, n, 0, 0);
            Lines.end(log, n, n == 0 ? 9999 : 99999999, new int[] {0, 0, 0, 9999999}, 1);
            log.finish();
        }
        Check.same("40 long pauses", log.throughput(), 1.0 - 399999960.0 / (1000.0 * (9999.0 + 39 * 99999999L)));
        Check.same("of the one cause", log.ofCause(0), 399999960L);
    }

    // "over all pauses but the first of each log"
    private static void allocatedOnlyBetweenPausesOfALog() {
        PauseLog log = new PauseLog();
        for (int n = 0; n < 5; n++) {
            pause(log, 0, 100 * n, 100 * n + 1, 500, 20, 1);
            log.finish();
        }
        Check.noState("one pause in each log", () -> log.rate(0));
        Lines.begin(log, 0, 0, 0);
        log.finish();
        Lines.mark(log, 0, 5, 0);
        Lines.abort(log, 0, 6, 1);
        pause(log, 1, 10, 11, 70, 30, 1);
        Check.noState("still the first of its log", () -> log.rate(0));
        pause(log, 2, 13, 20, 41, 0, 1);
        Check.same("the second one", log.rate(0), 11.0 / 2.0);
    }

    // "the after of the pause ahead of it (in the order of the events)"
    private static void allocatedByEventsThatWereMade() {
        PauseLog log = new PauseLog();
        Lines.mark(log, 0, 0, 0);
        pause(log, 1, 10, 12, 90, 40, 1);
        Lines.abort(log, 0, 15, 1);
        Lines.begin(log, 2, 20, 0);
        Lines.end(log, 2, 21, new int[] {9, 9, 8, 1}, -PauseLog.WRONG);
        Lines.mark(log, 3, 30, 0);
        Lines.marked(log, 3, 31, 1, 1);
        Lines.end(log, 2, 33, new int[] {60, 10, 99, 1}, 1);
        Check.same("from the END to the next BEGIN", log.rate(0), 20.0 / 8.0);
        Lines.begin(log, 4, 50, 0);
        Check.same("an open pause does not count", log.rate(0), 20.0 / 8.0);
        log.finish();
        Check.same("nor one that was dropped", log.rate(0), 20.0 / 8.0);
    }

    private static void allocatedOfGreatNumbers() {
        int most = 10238976;
        PauseLog log = new PauseLog();
        for (int n = 0; n < 20; n++) {
            Lines.begin(log, 0, 0, 0);
            Lines.end(log, 0, 0, new int[] {0, 0, most, 0}, 1);
            Lines.begin(log, 1, 99999999, 0);
            Lines.end(log, 1, 99999999, new int[] {most, most, most, 0}, 1);
            log.finish();
        }
        Check.same("40 pauses", log.rate(0), (20.0 * most) / (20.0 * 99999999));
        // Full: this pause makes no event, so nothing is allocated by it.
        Lines.begin(log, 0, 0, 0);
        Lines.end(log, 0, 0, -PauseLog.FULL);
        Check.same("FULL", log.rate(0), (20.0 * most) / (20.0 * 99999999));
    }

    // "the sum over all pauses with an OLD of its after less its before"
    private static void promotedOnlyByEndedPauses() {
        PauseLog log = new PauseLog();
        Lines.begin(log, 0, 0, 0);
        Lines.old(log, 0, 10, 0, 7, 0);
        Check.same("open", log.rate(1), 0.0);
        Lines.old(log, 0, 10, 0, 100, -PauseLog.WRONG);
        Lines.end(log, 0, 10, new int[] {7, 6, 7, 0}, -PauseLog.WRONG);
        Check.same("still open", log.rate(1), 0.0);
        log.finish();
        Check.same("dropped", log.rate(1), 0.0);
        Lines.begin(log, 0, 0, 0);
        Lines.old(log, 0, 0, 0, 7, 0);
        Lines.eden(log, 0, 0, 900, 800, 0);
        Lines.end(log, 0, 0, new int[] {1000, 900, 1000, 0}, 1);
        Check.same("ended", log.rate(1), 7.0 / 10.0);
    }

    private static void promotedOfGreatNumbers() {
        int most = 10238976;
        PauseLog log = new PauseLog();
        for (int n = 0; n < 40; n++) {
            boolean up = n < 30;
            Lines.begin(log, n, n, 0);
            Lines.old(log, n, n, up ? 0 : most, up ? most : 0, 0);
            Lines.end(log, n, n, new int[] {most, most, most, 0}, 1);
        }
        Check.same("30 up and 10 down", log.rate(1), (20.0 * most) / 39.0);
    }

    // "what took least, so that at least p * n / 100 of them took no more"
    private static void percentilesOfAnyMany() {
        for (int many = 1; many <= 40; many++) {
            PauseLog log = new PauseLog();
            for (int n = 0; n < many; n++) {
                // All of 1 .. many, but not in their order, since 41 is a prime number.
                int took = many == 40 ? 7 * (n + 1) % 41 : n % 2 == 0 ? many - n / 2 : 1 + n / 2;
                pause(log, n, n, n, 0, 0, took);
            }
            for (int p = 1; p <= 100; p++) {
                int due = p * many / 100 + (p * many % 100 == 0 ? 0 : 1);
                Check.same("percentile(" + p + ") of " + many, log.percentile(p), due);
            }
        }
    }

    private static void percentileOfTheSame() {
        PauseLog log = new PauseLog();
        pause(log, 0, 0, 0, 0, 0, 0);
        pause(log, 1, 0, 0, 0, 0, 0);
        pause(log, 2, 0, 0, 0, 0, 500);
        pause(log, 3, 0, 0, 0, 0, 0);
        Check.same("percentile(1)", log.percentile(1), 0);
        Check.same("percentile(75)", log.percentile(75), 0);
        Check.same("percentile(76)", log.percentile(76), 500);
        Check.same("percentile(100)", log.percentile(100), 500);
        log.finish();
        Check.same("of all logs", log.percentile(75), 0);
    }

    // "2 to the b or more, and less than 2 to the b + 1 (bucket 0: also those that took 0)"
    private static void bucketsOfAll() {
        PauseLog log = new PauseLog();
        int[] took = {0, 0, 1, 2, 3, 4, 7, 8, 4194303, 4194304, 8388607, 8388608, 9999999};
        for (int n = 0; n < took.length; n++) {
            pause(log, 0, 0, 9999, 0, 0, took[n]);
            log.finish();
        }
        int[] due = {3, 2, 2, 1, 0, 0, 0, 0, 0, 0, 0, 0, 0, 0, 0, 0, 0, 0, 0, 0, 0, 1, 2, 2};
        for (int b = 0; b < due.length; b++) {
            Check.same("bucket(" + b + ")", log.bucket(b), due[b]);
        }
        // An aborted mark may take longer than any bucket tells of.
        Lines.mark(log, 0, 0, 0);
        Lines.abort(log, 0, 99999999, 1);
        Check.same("marks are in no bucket", log.bucket(23), 2);
        Check.noIndex("bucket(24)", () -> log.bucket(24));
        Check.noIndex("bucket(-1)", () -> log.bucket(-1));
    }

    // "The sum of what the pauses of a cause [..] took."
    private static void causesOfAll() {
        PauseLog log = new PauseLog();
        int[] shapes = {0, 100, 210, 20, 110, 220};
        for (int n = 0; n < shapes.length; n++) {
            Lines.put(log, shapes[n], n, 0, 0);
            Lines.put(log, shapes[n] + 1, n, 0, new int[] {0, 0, 0, 1 << n}, 1);
        }
        Lines.mark(log, 7, 0, 0);
        Lines.marked(log, 7, 0, 512, 1);
        Lines.put(log, 200, 8, 0, 0);
        log.finish();
        Check.same("Alloc", log.ofCause(0), 1L + 8);
        Check.same("Meta", log.ofCause(1), 2L + 16);
        Check.same("User", log.ofCause(2), 4L + 32);
        Check.noIndex("ofCause(-1)", () -> log.ofCause(-1));
        Check.noIndex("ofCause(3)", () -> log.ofCause(3));
    }

    // "6 characters in the pad", "9 the id of the open pause and 10 of the open mark (NONE for none)"
    private static void countsAtTheirEdges() {
        PauseLog log = new PauseLog();
        Check.same("empty", log.count(6), 0);
        Check.type(log, "x".repeat(72));
        Check.same("full", log.count(6), 72);
        log.type('x');
        Check.same("not more", log.count(6), 72);
        log.drop(73);
        Check.same("empty again", log.count(6), 0);
        Lines.begin(log, 0, 0, 0);
        Check.same("pause 0 is not none", log.count(9), 0);
        Check.same("no mark", log.count(10), PauseLog.NONE);
        Lines.mark(log, 999, 0, 0);
        Check.same("mark 999", log.count(10), 999);
        Lines.end(log, 0, 0, 1);
        Check.same("no pause", log.count(9), PauseLog.NONE);
        log.finish();
        Check.same("no mark", log.count(10), PauseLog.NONE);
        Lines.mark(log, 0, 0, 0);
        Check.same("mark 0 is not none", log.count(10), 0);
    }
}
