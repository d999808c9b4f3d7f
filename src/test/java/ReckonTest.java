/** Promises 10 to 15: throughput, rate, percentile, bucket, ofCause, count. */
public final class ReckonTest {
    public static void main(String[] args) {
        throughput();
        allocated();
        promoted();
        wrongStates();
        percentile();
        bucket();
        ofCause();
        count();
        spanOfManyLogs();
        Check.end();
    }

    private static void pause(PauseLog log, int id, int begin, int end, int before, int after, int took) {
        log.write(0, id, begin, 0, 0, 0, 0);
        Check.same("begin of " + id, log.line(), 0);
        log.write(1, id, end, before, after, 10238976, took);
        Check.same("end of " + id, log.line(), 1);
    }

    private static void throughput() {
        PauseLog log = new PauseLog();
        pause(log, 0, 1000, 1003, 5, 5, 3000);
        Check.same("all time was paused", log.throughput(), 0.0);
        Check.line(log, "[1.010s]GC(1) Mark", 0);
        Check.same("later lines count", log.throughput(), 1.0 - 3000.0 / 10000.0);
        Check.line(log, "[1.020s]GC(1) Mark 10.000ms", 1);
        Check.same("marks are no pauses", log.throughput(), 1.0 - 3000.0 / 20000.0);
        Check.line(log, "[1.030s]GC(7) Mark Abort", -PauseLog.UNKNOWN);
        Check.same("diagnostics have a time", log.throughput(), 1.0 - 3000.0 / 30000.0);
        Check.line(log, "[0.500s]GC(7) Mark", -PauseLog.BACK);
        Check.line(log, "[9.500s]GC(7) Mrak", -PauseLog.SYNTAX);
        Check.same("but for SYNTAX and BACK", log.throughput(), 1.0 - 3000.0 / 30000.0);
        log.finish();
        Check.same("finish changes nothing", log.throughput(), 1.0 - 3000.0 / 30000.0);
        pause(log, 0, 7, 8, 5, 5, 1999);
        Check.same("sums over the logs", log.throughput(), 1.0 - 4999.0 / 31000.0);
        PauseLog below = new PauseLog();
        pause(below, 0, 0, 1, 5, 5, 1999);
        Check.same("throughput below 0", below.throughput(), 1.0 - 1999.0 / 1000.0);
    }

    private static void allocated() {
        PauseLog log = new PauseLog();
        pause(log, 0, 100, 110, 50, 20, 1);
        Check.noState("rate of one pause", () -> log.rate(0));
        Check.line(log, "[0.110s]GC(1) Mark", 0);
        pause(log, 2, 120, 130, 90, 30, 1);
        Check.line(log, "[0.131s]GC(1) Mark Abort", 1);
        Check.same("rate of two", log.rate(0), 70.0 / 10.0);
        pause(log, 3, 150, 150, 25, 25, 1);
        Check.same("less may be there than was left", log.rate(0), 65.0 / 30.0);
        log.finish();
        pause(log, 0, 0, 5, 9000, 1000, 1);
        Check.same("not from log to log", log.rate(0), 65.0 / 30.0);
        pause(log, 1, 5, 6, 1007, 0, 1);
        Check.same("but in each log", log.rate(0), 72.0 / 30.0);
        PauseLog gone = new PauseLog();
        pause(gone, 0, 0, 0, 100, 100, 1);
        pause(gone, 1, 4, 4, 0, 0, 1);
        Check.same("rate below 0", gone.rate(0), -25.0);
        PauseLog close = new PauseLog();
        pause(close, 0, 0, 1, 0, 0, 1);
        pause(close, 1, 1, 2, 100, 0, 1);
        Check.noState("no time between", () -> close.rate(0));
    }

    private static void promoted() {
        PauseLog log = new PauseLog();
        Check.line(log, "[0.000s]GC(0) Pause Young (Alloc)", 0);
        Check.line(log, "[0.000s]GC(0) Old 10K->40K", 0);
        Check.line(log, "[0.000s]GC(0) Pause Young (Alloc) 40K->40K(40K) 0.000ms", 1);
        Check.noState("promoted in no time", () -> log.rate(1));
        Check.line(log, "[0.007s]GC(1) Pause Young (Alloc)", 0);
        Check.line(log, "[0.007s]GC(1) Old 40K->35K", 0);
        Check.same("an open pause does not count", log.rate(1), 30.0 / 7.0);
        Check.line(log, "[0.007s]GC(1) Pause Young (Alloc) 40K->40K(40K) 0.000ms", 1);
        Check.same("two pauses", log.rate(1), 25.0 / 7.0);
        pause(log, 2, 9, 10, 9000, 1, 0);
        Check.same("without an OLD nothing is promoted", log.rate(1), 25.0 / 10.0);
        log.finish();
        Check.line(log, "[0.000s]GC(0) Pause Young (Alloc)", 0);
        Check.line(log, "[0.000s]GC(0) Old 100K->0K", 0);
        Check.line(log, "[0.001s]GC(0) Pause Young (Alloc) 100K->0K(100K) 0.000ms", 1);
        Check.same("rate below 0", log.rate(1), -75.0 / 11.0);
        PauseLog fromNone = new PauseLog();
        Check.line(fromNone, "[0.000s]GC(0) Pause Young (Alloc)", 0);
        Check.line(fromNone, "[0.000s]GC(0) Old 0K->6K", 0);
        Check.line(fromNone, "[0.002s]GC(0) Pause Young (Alloc) 6K->6K(6K) 0.000ms", 1);
        Check.same("an OLD that was empty before", fromNone.rate(1), 3.0);
    }

    private static void wrongStates() {
        PauseLog log = new PauseLog();
        Check.noState("throughput of nothing", log::throughput);
        Check.noState("rate(0) of nothing", () -> log.rate(0));
        Check.noState("rate(1) of nothing", () -> log.rate(1));
        Check.noArgument("rate(-1)", () -> log.rate(-1));
        Check.noArgument("rate(2)", () -> log.rate(2));
        Check.noState("percentile of nothing", () -> log.percentile(1));
        Check.line(log, "[5.000s]GC(0) Mark", 0);
        Check.noState("throughput of one time", log::throughput);
        Check.line(log, "[5.000s]GC(0) Mark 0.000ms", 1);
        Check.noState("percentile of a mark", () -> log.percentile(100));
        log.finish();
        Check.line(log, "[9.000s]GC(0) Mark", 0);
        Check.noState("throughput of two logs of one time each", log::throughput);
        Check.line(log, "[9.001s]GC(0) Mark Abort", 1);
        Check.same("throughput without pauses", log.throughput(), 1.0);
        Check.same("nothing promoted", log.rate(1), 0.0);
        pause(log, 1, 9001, 9001, 0, 0, 0);
        Check.noArgument("rate(2) with pauses", () -> log.rate(2));
    }

    private static void percentile() {
        PauseLog log = new PauseLog();
        int[] took = {700, 100, 300, 300, 999, 0, 500};
        int[] sorted = {0, 100, 300, 300, 500, 700, 999};
        for (int n = 0; n < took.length; n++) {
            pause(log, n, 10 * n, 10 * n + 1, 0, 0, took[n]);
        }
        Check.line(log, "[1.000s]GC(20) Mark", 0);
        Check.line(log, "[1.001s]GC(20) Mark 0.001ms", 1);
        for (int p = 1; p <= 100; p++) {
            int place = (p * sorted.length + 99) / 100;
            Check.same("percentile(" + p + ")", log.percentile(p), sorted[place - 1]);
        }
        int[] outside = {0, 101, -1, Integer.MAX_VALUE, Integer.MIN_VALUE};
        for (int p : outside) {
            Check.noArgument("percentile(" + p + ")", () -> log.percentile(p));
        }
        Check.noArgument("percentile(0) of nothing", () -> new PauseLog().percentile(0));
        PauseLog one = new PauseLog();
        pause(one, 0, 0, 9999, 0, 0, 9999999);
        Check.same("percentile(1) of one", one.percentile(1), 9999999);
        Check.same("percentile(100) of one", one.percentile(100), 9999999);
    }

    private static void bucket() {
        for (int b = 0; b < 24; b++) {
            int low = 1 << b;
            inBucket(low, b);
            inBucket(Math.min(2 * low - 1, 9999999), b);
        }
        inBucket(0, 0);
        PauseLog log = new PauseLog();
        pause(log, 0, 0, 9, 0, 0, 1);
        pause(log, 1, 9, 9, 0, 0, 0);
        pause(log, 2, 9, 9, 0, 0, 2);
        Check.line(log, "[0.009s]GC(3) Mark", 0);
        Check.line(log, "[0.009s]GC(3) Mark 0.001ms", 1);
        Check.same("two in bucket 0", log.bucket(0), 2);
        Check.same("one in bucket 1", log.bucket(1), 1);
        int[] outside = {-1, 24, 31, 32, Integer.MAX_VALUE, Integer.MIN_VALUE};
        for (int b : outside) {
            Check.noIndex("bucket(" + b + ")", () -> log.bucket(b));
        }
    }

    private static void inBucket(int took, int due) {
        PauseLog log = new PauseLog();
        pause(log, 0, 0, 99999, 0, 0, took);
        for (int b = 0; b < 24; b++) {
            Check.same(took + " in bucket " + b, log.bucket(b), b == due ? 1 : 0);
        }
    }

    private static void ofCause() {
        PauseLog log = new PauseLog();
        int id = 0;
        for (int cause = 0; cause < 3; cause++) {
            for (int kind = 0; kind < 3; kind++) {
                log.write(10 * kind + 100 * cause, id, 10000 * id, 0, 0, 0, 0);
                Check.same("begin", log.line(), 0);
                log.write(1 + 10 * kind + 100 * cause, id, 10000 * id + 10000, 0, 0, 0, 9999990 + cause);
                Check.same("end", log.line(), 1);
                id++;
            }
        }
        Check.line(log, "[500.000s]GC(20) Mark", 0);
        Check.line(log, "[501.000s]GC(20) Mark 1.000ms", 1);
        for (int cause = 0; cause < 3; cause++) {
            Check.same("ofCause(" + cause + ")", log.ofCause(cause), 3L * (9999990 + cause));
        }
        int[] outside = {-1, 3, Integer.MAX_VALUE, Integer.MIN_VALUE};
        for (int cause : outside) {
            Check.noIndex("ofCause(" + cause + ")", () -> log.ofCause(cause));
        }
        Check.same("of no pause", new PauseLog().ofCause(0), 0L);
    }

    private static void count() {
        PauseLog log = new PauseLog();
        int none = PauseLog.NONE;
        Check.line(log, "[1.000s]GC(3) Mark", 0);
        Check.counts("a mark", log, 1, 0, 0, 0, 0, 1, 0, 0, 0, none, 3);
        Check.line(log, "[1.500s]GC(4) Pause Young (Alloc)", 0);
        Check.line(log, "[1.500s]GC(4) Eden 0K->0K", 0);
        Check.counts("a pause too", log, 3, 0, 0, 0, 0, 3, 0, 500, 0, 4, 3);
        Check.line(log, "[2.000s]GC(4) Eden 0K->0K", -PauseLog.WRONG);
        Check.line(log, "[0.000s]GC(4) Eden 0K->0K", -PauseLog.BACK);
        Check.type(log, "[2");
        Check.counts("diagnostics", log, 5, 0, 2, 0, 2, 3, 2, 1000, 0, 4, 3);
        Check.line(log, ".250s]GC(4) Pause Young (Alloc) 0K->0K(0K) 0.000ms", 1);
        Check.counts("an event", log, 6, 1, 2, 3, 2, 1, 0, 1250, 1, none, 3);
        Check.line(log, "[2.250s]GC(3) Mark Abort", 1);
        Check.counts("two events", log, 7, 2, 2, 5, 2, 0, 0, 1250, 1, none, none);
        int[] outside = {-1, 11, Integer.MAX_VALUE, Integer.MIN_VALUE};
        for (int what : outside) {
            Check.noIndex("count(" + what + ")", () -> log.count(what));
        }
    }

    private static void spanOfManyLogs() {
        PauseLog log = new PauseLog();
        long span = 0;
        for (int n = 0; n < 50; n++) {
            log.write(4, 0, 0, 0, 0, 0, 0);
            log.line();
            log.write(4, 0, 99999999, 0, 0, 0, 0);
            Check.same("stale", log.line(), -PauseLog.STALE);
            span += 99999999;
            Check.same("span", log.count(7), (int) span);
            log.finish();
            Check.same("span, finished", log.count(7), (int) span);
        }
        pause(log, 0, 0, 1, 0, 0, 1000);
        Check.same("throughput of a long span", log.throughput(), 1.0 - 1000.0 / (1000.0 * (span + 1)));
    }
}
