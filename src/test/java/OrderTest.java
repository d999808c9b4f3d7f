/** What the Terms say of what may be wrong with a line, at its edges, and of the order of it. */
public final class OrderTest {
    private static final int NONE = PauseLog.NONE;

    public static void main(String[] args) {
        syntaxComesFirst();
        backComesBeforeTheRest();
        staleComesBeforeBusy();
        unknownComesBeforeFull();
        wrongComesBeforeFull();
        backOnlyBelowTheGreatestTime();
        backAlsoBehindWrongLines();
        notBehindSyntaxOrBack();
        staleUnlessGreaterThanAll();
        staleOnlyByTakenLines();
        staleAtTheLastId();
        busy();
        unknown();
        wrongSecondParts();
        wrongKindOrCause();
        wrongOverTheCapacity();
        wrongBelowTheParts();
        wrongBelowGreatParts();
        wrongTookOfPauses();
        wrongTookOfMarks();
        wrongTookDoesNotWrapAround();
        full();
        fullOnlyForEnds();
        fullInLaterLogsToo();
        nothingElseHappens();
        Check.end();
    }

    /** At 5 s: mark 3 and pause 5 are open, which has an EDEN. */
    private static PauseLog withBothOpen() {
        PauseLog log = new PauseLog();
        open(log, 3, 5, 5000);
        return log;
    }

    /** As above, but mark 40 and pause 42, with 40 events. */
    private static PauseLog withBothOpenAndFull() {
        PauseLog log = new PauseLog();
        Lines.events(log, 40);
        open(log, 40, 42, 5000);
        return log;
    }

    private static void open(PauseLog log, int mark, int pause, int time) {
        Lines.mark(log, mark, time, 0);
        Lines.begin(log, pause, time, 0);
        Lines.eden(log, pause, time, 7, 3, 0);
    }

    private static int[] numbers(int a, int b, int c, int took) {
        return new int[] {a, b, c, took};
    }

    // "1 SYNTAX: it is no line."
    private static void syntaxComesFirst() {
        String[] rests = {"s]GC(5) Pause Young (Alloc).", "s]GC(9) Mark ", "s]GC(8) Old 1K->1", "s]GC(5) Eden 1K->1K "};
        for (String rest : rests) {
            Check.line(withBothOpen(), "[4.999" + rest, -PauseLog.SYNTAX);
            Check.line(withBothOpenAndFull(), "[5.000" + rest, -PauseLog.SYNTAX);
        }
    }

    private static void backComesBeforeTheRest() {
        int back = -PauseLog.BACK;
        Lines.begin(withBothOpen(), 6, 4999, back);
        Lines.begin(withBothOpen(), 5, 4999, back);
        Lines.mark(withBothOpen(), 3, 4999, back);
        Lines.mark(withBothOpen(), 6, 4999, back);
        Lines.eden(withBothOpen(), 6, 4999, 1, 1, back);
        Lines.eden(withBothOpen(), 5, 4999, 1, 1, back);
        Lines.old(withBothOpen(), 5, 4999, 1, 1, back);
        Lines.end(withBothOpen(), 5, 4999, numbers(9, 9, 9, 0), back);
        Lines.end(withBothOpen(), 5, 4999, numbers(9, 9, 8, 0), back);
        Lines.marked(withBothOpen(), 3, 4999, 9999999, back);
        Lines.abort(withBothOpen(), 4, 4999, back);
        Lines.end(withBothOpenAndFull(), 42, 4999, numbers(9, 9, 9, 0), back);
        Lines.marked(withBothOpenAndFull(), 40, 4999, 0, back);
        Lines.abort(withBothOpenAndFull(), 40, 4999, back);
    }

    private static void staleComesBeforeBusy() {
        Lines.begin(withBothOpen(), 5, 5000, -PauseLog.STALE);
        Lines.begin(withBothOpen(), 0, 5000, -PauseLog.STALE);
        Lines.mark(withBothOpen(), 5, 5000, -PauseLog.STALE);
        Lines.mark(withBothOpen(), 3, 5000, -PauseLog.STALE);
        Lines.begin(withBothOpen(), 6, 5000, -PauseLog.BUSY);
        Lines.mark(withBothOpen(), 6, 5000, -PauseLog.BUSY);
    }

    private static void unknownComesBeforeFull() {
        Lines.end(withBothOpenAndFull(), 40, 5000, numbers(9, 9, 0, 9999999), -PauseLog.UNKNOWN);
        Lines.marked(withBothOpenAndFull(), 42, 5000, 9999999, -PauseLog.UNKNOWN);
        Lines.abort(withBothOpenAndFull(), 42, 5000, -PauseLog.UNKNOWN);
    }

    private static void wrongComesBeforeFull() {
        Lines.end(withBothOpenAndFull(), 42, 5000, numbers(9, 9, 8, 0), -PauseLog.WRONG);
        Lines.end(withBothOpenAndFull(), 42, 5000, numbers(9, 9, 9, 1000), -PauseLog.WRONG);
        Lines.put(withBothOpenAndFull(), 11, 42, 5000, numbers(9, 9, 9, 0), -PauseLog.WRONG);
        Lines.marked(withBothOpenAndFull(), 40, 5000, 1000, -PauseLog.WRONG);
        Lines.end(withBothOpenAndFull(), 42, 5000, numbers(9, 9, 9, 999), -PauseLog.FULL);
        Lines.marked(withBothOpenAndFull(), 40, 5000, 999, -PauseLog.FULL);
        Lines.abort(withBothOpenAndFull(), 40, 5000, -PauseLog.FULL);
    }

    // "2 BACK: its time is less than that of some earlier line of the log"
    private static void backOnlyBelowTheGreatestTime() {
        PauseLog log = new PauseLog();
        Lines.mark(log, 0, 0, 0);
        Lines.abort(log, 0, 0, 1);
        Lines.mark(log, 1, 99999999, 0);
        Lines.abort(log, 1, 99999998, -PauseLog.BACK);
        Lines.abort(log, 1, 0, -PauseLog.BACK);
        Lines.abort(log, 1, 99999999, 1);
        log.finish();
        Lines.mark(log, 0, 0, 0);
    }

    // "that was neither SYNTAX nor BACK": all other lines are looked at, taken or not.
    private static void backAlsoBehindWrongLines() {
        PauseLog log = withBothOpen();
        Lines.begin(log, 5, 5001, -PauseLog.STALE);
        Lines.old(log, 5, 5000, 0, 0, -PauseLog.BACK);
        Lines.begin(log, 6, 5002, -PauseLog.BUSY);
        Lines.old(log, 5, 5001, 0, 0, -PauseLog.BACK);
        Lines.abort(log, 9, 5003, -PauseLog.UNKNOWN);
        Lines.old(log, 5, 5002, 0, 0, -PauseLog.BACK);
        Lines.eden(log, 5, 5004, 0, 0, -PauseLog.WRONG);
        Lines.old(log, 5, 5003, 0, 0, -PauseLog.BACK);
        Lines.old(log, 5, 5005, 0, 0, 0);
        Lines.end(log, 5, 5004, numbers(9, 9, 9, 0), -PauseLog.BACK);
        Lines.end(log, 5, 5005, numbers(9, 9, 9, 0), 1);
        PauseLog full = withBothOpenAndFull();
        Lines.abort(full, 40, 5001, -PauseLog.FULL);
        Lines.old(full, 42, 5000, 0, 0, -PauseLog.BACK);
        Lines.old(full, 42, 5001, 0, 0, 0);
    }

    private static void notBehindSyntaxOrBack() {
        PauseLog log = new PauseLog();
        Check.line(log, "[9.000s]GC(0) Mark.", -PauseLog.SYNTAX);
        Lines.mark(log, 0, 5000, 0);
        Check.line(log, "[9.000s]GC(0) Mark ", -PauseLog.SYNTAX);
        Lines.abort(log, 0, 3000, -PauseLog.BACK);
        Lines.abort(log, 0, 4000, -PauseLog.BACK);
        Lines.abort(log, 0, 5000, 1);
        Check.same("span of it", log.count(7), 0);
    }

    // "3 STALE: a BEGIN or MARK whose id is not greater than those of all taken BEGINs and MARKs of the log."
    private static void staleUnlessGreaterThanAll() {
        PauseLog log = new PauseLog();
        Lines.mark(log, 7, 0, 0);
        Lines.begin(log, 7, 0, -PauseLog.STALE);
        Lines.begin(log, 6, 0, -PauseLog.STALE);
        Lines.begin(log, 8, 0, 0);
        Lines.end(log, 8, 0, 1);
        Lines.abort(log, 7, 0, 1);
        Lines.mark(log, 8, 0, -PauseLog.STALE);
        Lines.mark(log, 7, 0, -PauseLog.STALE);
        Lines.mark(log, 9, 0, 0);
        log.finish();
        Lines.begin(log, 0, 0, 0);
        Lines.mark(log, 0, 0, -PauseLog.STALE);
        Lines.mark(log, 1, 0, 0);
    }

    private static void staleOnlyByTakenLines() {
        PauseLog log = withBothOpen();
        Lines.begin(log, 900, 5000, -PauseLog.BUSY);
        Lines.mark(log, 900, 5000, -PauseLog.BUSY);
        Lines.begin(log, 900, 4999, -PauseLog.BACK);
        Lines.abort(log, 900, 5000, -PauseLog.UNKNOWN);
        Check.line(log, "[5.000s]GC(900) Mark ", -PauseLog.SYNTAX);
        Lines.abort(log, 3, 5000, 1);
        Lines.mark(log, 6, 5000, 0);
    }

    private static void staleAtTheLastId() {
        PauseLog log = new PauseLog();
        Lines.mark(log, 999, 0, 0);
        Lines.begin(log, 999, 0, -PauseLog.STALE);
        Lines.begin(log, 0, 0, -PauseLog.STALE);
        Lines.abort(log, 999, 0, 1);
        Lines.mark(log, 999, 0, -PauseLog.STALE);
        log.finish();
        Lines.mark(log, 999, 0, 0);
    }

    // "4 BUSY: a BEGIN while a pause is open, a MARK while a mark is."
    private static void busy() {
        PauseLog log = new PauseLog();
        Lines.begin(log, 0, 0, 0);
        Lines.begin(log, 1, 0, -PauseLog.BUSY);
        Lines.mark(log, 1, 0, 0);
        Lines.mark(log, 2, 0, -PauseLog.BUSY);
        Lines.begin(log, 2, 0, -PauseLog.BUSY);
        Lines.end(log, 0, 0, 1);
        Lines.mark(log, 2, 0, -PauseLog.BUSY);
        Lines.begin(log, 2, 0, 0);
        Lines.marked(log, 1, 0, 0, 1);
        Lines.begin(log, 3, 0, -PauseLog.BUSY);
        Lines.mark(log, 3, 0, 0);
        log.finish();
        Lines.begin(log, 4, 0, 0);
        Lines.mark(log, 5, 0, 0);
    }

    // "5 UNKNOWN: an END, EDEN or OLD without an open pause of this id, a MARKED or ABORT without such a mark."
    private static void unknown() {
        PauseLog log = new PauseLog();
        unknownFor(log, 0);
        open(log, 3, 5, 5000);
        unknownFor(log, 4);
        unknownFor(log, 6);
        int unknown = -PauseLog.UNKNOWN;
        Lines.end(log, 3, 5000, numbers(9, 9, 9, 0), unknown);
        Lines.eden(log, 3, 5000, 1, 1, unknown);
        Lines.old(log, 3, 5000, 1, 1, unknown);
        Lines.marked(log, 5, 5000, 0, unknown);
        Lines.abort(log, 5, 5000, unknown);
        Lines.end(log, 5, 5000, numbers(9, 9, 9, 0), 1);
        Lines.abort(log, 3, 5000, 1);
        unknownFor(log, 5);
        unknownFor(log, 3);
        log.finish();
        open(log, 3, 5, 5000);
        log.finish();
        unknownFor(log, 5);
        unknownFor(log, 3);
    }

    private static void unknownFor(PauseLog log, int id) {
        Lines.end(log, id, 5000, numbers(9, 9, 9, 0), -PauseLog.UNKNOWN);
        Lines.eden(log, id, 5000, 1, 1, -PauseLog.UNKNOWN);
        Lines.old(log, id, 5000, 1, 1, -PauseLog.UNKNOWN);
        Lines.marked(log, id, 5000, 0, -PauseLog.UNKNOWN);
        Lines.abort(log, id, 5000, -PauseLog.UNKNOWN);
    }

    // "6 WRONG: an EDEN or OLD where the open pause has one already": also one of 0K->0K.
    private static void wrongSecondParts() {
        PauseLog log = new PauseLog();
        Lines.begin(log, 0, 0, 0);
        Lines.eden(log, 0, 0, 0, 0, 0);
        Lines.eden(log, 0, 0, 0, 0, -PauseLog.WRONG);
        Lines.old(log, 0, 0, 0, 0, 0);
        Lines.old(log, 0, 0, 0, 0, -PauseLog.WRONG);
        Lines.eden(log, 0, 0, 5, 5, -PauseLog.WRONG);
        Lines.end(log, 0, 0, 1);
        Lines.begin(log, 1, 0, 0);
        Lines.old(log, 1, 0, 0, 0, 0);
        Lines.eden(log, 1, 0, 0, 0, 0);
        Check.same("lines of it", log.count(5), 3);
    }

    // "an END with another kind or cause than the BEGIN's"
    private static void wrongKindOrCause() {
        for (int begun = 0; begun < 9; begun++) {
            for (int ended = 0; ended < 9; ended++) {
                PauseLog log = new PauseLog();
                Lines.put(log, 10 * (begun % 3) + 100 * (begun / 3), 0, 0, 0);
                Lines.put(log, 1 + 10 * (ended % 3) + 100 * (ended / 3), 0, 0, begun == ended ? 1 : -PauseLog.WRONG);
            }
        }
    }

    // "with before or after greater than the capacity"
    private static void wrongOverTheCapacity() {
        int[] capacities = {0, 1, 1023, 1024, 9998, 10237952};
        for (int capacity : capacities) {
            // The next size that has a text.
            int more = capacity == 10237952 ? 10238976 : capacity + 1;
            endWith(numbers(more, 0, capacity, 0), -PauseLog.WRONG);
            endWith(numbers(0, more, capacity, 0), -PauseLog.WRONG);
            endWith(numbers(capacity, capacity, capacity, 0), 1);
            endWith(numbers(0, 0, capacity, 0), 1);
        }
    }

    private static void endWith(int[] numbers, int due) {
        PauseLog log = new PauseLog();
        Lines.begin(log, 0, 0, 0);
        Lines.end(log, 0, 0, numbers, due);
    }

    // "with a before less than those of its EDEN and OLD together (if it has both; or than that of
    // the one it has), an after likewise"
    private static void wrongBelowTheParts() {
        for (int parts = 0; parts < 4; parts++) {
            boolean eden = parts % 2 == 1;
            boolean old = parts / 2 == 1;
            int before = (eden ? 20 : 0) + (old ? 300 : 0);
            int after = (eden ? 4 : 0) + (old ? 5000 : 0);
            endBehind(eden, old, before, after, 1);
            if (eden || old) {
                endBehind(eden, old, before - 1, after, -PauseLog.WRONG);
                endBehind(eden, old, before, after - 1, -PauseLog.WRONG);
            }
        }
    }

    private static void endBehind(boolean eden, boolean old, int before, int after, int due) {
        PauseLog log = new PauseLog();
        Lines.begin(log, 0, 0, 0);
        if (old) {
            Lines.old(log, 0, 0, 300, 5000, 0);
        }
        if (eden) {
            Lines.eden(log, 0, 0, 20, 4, 0);
        }
        Lines.end(log, 0, 0, numbers(before, after, 9999, 0), due);
    }

    private static void wrongBelowGreatParts() {
        int most = 10238976;
        PauseLog log = new PauseLog();
        Lines.begin(log, 0, 0, 0);
        Lines.eden(log, 0, 0, most, 0, 0);
        Lines.old(log, 0, 0, 1, 0, 0);
        Lines.end(log, 0, 0, numbers(most, 0, most, 0), -PauseLog.WRONG);
        log.finish();
        Lines.begin(log, 0, 0, 0);
        Lines.eden(log, 0, 0, most, most, 0);
        Lines.old(log, 0, 0, 0, 0, 0);
        Lines.end(log, 0, 0, numbers(most, most, most, 0), 1);
    }

    // "or that took more than 1000 * (its time less the BEGIN's) + 999"
    private static void wrongTookOfPauses() {
        int[] waits = {0, 1, 2, 999, 9998};
        for (int wait : waits) {
            int most = 1000 * wait + 999;
            PauseLog log = new PauseLog();
            Lines.begin(log, 0, 70, 0);
            // Not from the last line, but from the BEGIN.
            Lines.old(log, 0, 70 + wait, 0, 0, 0);
            Lines.end(log, 0, 70 + wait, numbers(0, 0, 0, most + 1), -PauseLog.WRONG);
            Lines.end(log, 0, 70 + wait, numbers(0, 0, 0, most), 1);
            Check.same("what it took", log.event(0, 8), most);
        }
    }

    // "a MARKED likewise in what it took."
    private static void wrongTookOfMarks() {
        int[] waits = {0, 1, 2, 999, 9998};
        for (int wait : waits) {
            int most = 1000 * wait + 999;
            PauseLog log = new PauseLog();
            Lines.mark(log, 0, 70, 0);
            Lines.begin(log, 1, 70 + wait, 0);
            Lines.marked(log, 0, 70 + wait, most + 1, -PauseLog.WRONG);
            Lines.marked(log, 0, 70 + wait, most, 1);
            Check.same("what it took", log.event(0, 8), most);
        }
    }

    // Times 1000, these are more than an int holds: some would turn out below 0, some near to it.
    private static void wrongTookDoesNotWrapAround() {
        int[] waits = {9999, 2147483, 2147484, 4294967, 4294968, 50000000, 99999999};
        for (int wait : waits) {
            PauseLog log = new PauseLog();
            Lines.begin(log, 0, 0, 0);
            Lines.mark(log, 1, 0, 0);
            Lines.end(log, 0, wait, numbers(0, 0, 0, 9999999), 1);
            Lines.marked(log, 1, wait, 9999999, 1);
        }
    }

    // "7 FULL: an END, MARKED or ABORT while there are 40 events."
    private static void full() {
        PauseLog log = new PauseLog();
        Lines.events(log, 39);
        open(log, 40, 42, 5000);
        Lines.end(log, 42, 5000, numbers(9, 9, 9, 0), 1);
        Check.same("40 events", log.count(1), 40);
        Check.same("the last one", log.event(39, 1), 42);
        Lines.marked(log, 40, 5000, 0, -PauseLog.FULL);
        Lines.abort(log, 40, 5000, -PauseLog.FULL);
        Lines.begin(log, 43, 5000, 0);
        Lines.end(log, 43, 5000, -PauseLog.FULL);
        Check.same("still 40", log.count(1), 40);
        Check.noIndex("no more", () -> log.event(40, 0));
        Check.same("pauses", log.count(8), 21);
    }

    private static void fullOnlyForEnds() {
        PauseLog log = withBothOpenAndFull();
        Lines.old(log, 42, 5000, 1, 1, 0);
        Lines.begin(log, 43, 5000, -PauseLog.BUSY);
        Lines.end(log, 42, 5000, numbers(9, 9, 9, 0), -PauseLog.FULL);
        Check.counts("the open ones stay", log, 86, 40, 2, 80, 2, 4, 0, 5000, 20, 42, 40);
    }

    private static void fullInLaterLogsToo() {
        PauseLog log = new PauseLog();
        Lines.events(log, 40);
        log.finish();
        open(log, 0, 1, 0);
        Lines.end(log, 1, 0, numbers(9, 9, 9, 0), -PauseLog.FULL);
        Lines.marked(log, 0, 0, 0, -PauseLog.FULL);
        Lines.abort(log, 0, 0, -PauseLog.FULL);
        Check.same("finish", log.finish(), 3);
    }

    // "that is a DIAGNOSTIC with the first of these numbers, and nothing else happens"
    private static void nothingElseHappens() {
        PauseLog log = withBothOpen();
        Lines.begin(log, 6, 4999, -PauseLog.BACK);
        Lines.begin(log, 4, 5000, -PauseLog.STALE);
        Lines.begin(log, 6, 5000, -PauseLog.BUSY);
        Lines.end(log, 3, 5000, -PauseLog.UNKNOWN);
        Lines.eden(log, 5, 5000, 1, 1, -PauseLog.WRONG);
        Lines.put(log, 111, 5, 5000, numbers(20, 20, 20, 0), -PauseLog.WRONG);
        Lines.end(log, 5, 5000, numbers(20, 20, 19, 0), -PauseLog.WRONG);
        Lines.marked(log, 3, 5000, 1000, -PauseLog.WRONG);
        Check.counts("all as it was", log, 11, 0, 8, 0, 8, 3, 0, 0, 0, 5, 3);
        Lines.end(log, 5, 5001, numbers(9, 8, 10, 77), 1);
        int[] due = {0, 5, 5000, 5001, 0, 9, 8, 10, 77, 7, 3, NONE, NONE, 3};
        for (int what = 0; what < due.length; what++) {
            Check.same("event(0, " + what + ")", log.event(0, what), due[what]);
        }
        Lines.abort(log, 3, 5001, 1);
        Check.same("the mark's begin", log.event(1, 2), 5000);
    }
}
