import java.util.ArrayList;
import java.util.Arrays;
import java.util.List;
import java.util.function.Function;

/**
 * "EXCEPTIONS: [..] Such a call changes nothing.": every call that is refused, on objects in several
 * states; behind it the object must answer all questions as one does that never had this call.
 */
public final class RefusedCallTest {
    private static final int[] EXTREMES = {Integer.MIN_VALUE, -1024, -1, Integer.MAX_VALUE};

    private record Refused(String name, Object due, Function<PauseLog, Object> call) { }

    /** A way to come to a state; what stands in the pad is a line and extra characters behind it. */
    private record State(String name, int extra, Function<State, PauseLog> make) {
        PauseLog made() {
            return make.apply(this);
        }
    }

    public static void main(String[] args) {
        State[] states = {
            new State("new", 0, state -> new PauseLog()), new State("busy", 5, RefusedCallTest::busy),
            new State("full", 2, RefusedCallTest::full), new State("finished", 54, RefusedCallTest::finished),
        };
        for (State state : states) {
            List<Object> due = answersOf(state.made(), state.extra());
            for (Refused each : refusedIn(state)) {
                PauseLog log = state.made();
                String what = state.name() + ", " + each.name();
                Check.call(what, each.due(), () -> each.call().apply(log));
                Check.same("answers behind " + what, answersOf(log, state.extra()), due);
            }
        }
        Check.end();
    }

    /** Events of all kinds, diagnostics, an open pause and an open mark, and the pause's END in the pad. */
    private static PauseLog busy(State state) {
        PauseLog log = new PauseLog();
        Lines.put(log, 110, 0, 100, 0);
        Lines.old(log, 0, 100, 5, 9, 0);
        Lines.put(log, 111, 0, 200, new int[] {1024, 9, 9999, 4567}, 1);
        Lines.mark(log, 1, 200, 0);
        Lines.marked(log, 1, 210, 10999, 1);
        Lines.mark(log, 2, 220, 0);
        Lines.begin(log, 3, 300, 0);
        Lines.end(log, 3, 310, new int[] {50, 20, 60, 1}, 1);
        Lines.begin(log, 3, 310, -PauseLog.STALE);
        Lines.begin(log, 4, 330, 0);
        Lines.eden(log, 4, 330, 7, 3, 0);
        log.write(1, 4, 340, 77, 33, 99, 10999);
        addExtra(log, state.extra());
        return log;
    }

    /** 40 events, more than 12 diagnostics, no time, and a full pad. */
    private static PauseLog full(State state) {
        PauseLog log = new PauseLog();
        Lines.events(log, 40);
        for (int n = 0; n < 13; n++) {
            log.line();
        }
        log.write(1, 999, 99999999, 9999, 9999, 9999, 9999999);
        addExtra(log, state.extra());
        Check.same("pad", log.count(6), 72);
        return log;
    }

    /** Nothing is open, there is a time but no pause, and the pad is full. */
    private static PauseLog finished(State state) {
        PauseLog log = new PauseLog();
        Lines.mark(log, 0, 100, 0);
        Lines.begin(log, 1, 300, 0);
        log.finish();
        log.write(4, 0, 50, 0, 0, 0, 0);
        addExtra(log, state.extra());
        Check.same("pad", log.count(6), 72);
        return log;
    }

    private static void addExtra(PauseLog log, int many) {
        for (int n = 0; n < many; n++) {
            Check.same("type", log.type('~'), true);
        }
    }

    /** All that can be asked, and then how it goes on; fewer calls than are left to the object. */
    private static List<Object> answersOf(PauseLog log, int extra) {
        List<Object> answers = new ArrayList<>();
        addQuestions(answers, log);
        answers.add(log.drop(extra));
        answers.add(log.line());
        for (int what = 0; what < 3; what++) {
            answers.add(diagnostic(log, 0, what));
        }
        addCounts(answers, log);
        answers.add(log.finish());
        addCounts(answers, log);
        return answers;
    }

    private static Object diagnostic(PauseLog log, int k, int what) {
        return Check.answerOf(() -> log.diagnostic(k, what));
    }

    private static void addCounts(List<Object> answers, PauseLog log) {
        for (int what = 0; what <= 10; what++) {
            answers.add(log.count(what));
        }
    }

    private static void addQuestions(List<Object> answers, PauseLog log) {
        addCounts(answers, log);
        for (int i = 0; i < Math.min(4, log.count(1)); i++) {
            for (int what = 0; what < 14; what++) {
                answers.add(log.event(i, what));
            }
            answers.add(log.shown(i, 1, 14));
        }
        for (int k = 0; k < 12; k++) {
            answers.add(diagnostic(log, k, 0));
            answers.add(diagnostic(log, k, 1));
            answers.add(diagnostic(log, k, 2));
        }
        for (int b = 0; b < 24; b++) {
            answers.add(log.bucket(b));
        }
        for (int cause = 0; cause < 3; cause++) {
            answers.add(log.ofCause(cause));
        }
        answers.add(Check.answerOf(log::throughput));
        answers.add(Check.answerOf(() -> log.rate(0)));
        answers.add(Check.answerOf(() -> log.rate(1)));
        answers.add(Check.answerOf(() -> log.percentile(50)));
    }

    private static List<Refused> refusedIn(State state) {
        List<Refused> list = new ArrayList<>();
        PauseLog asked = state.made();
        int events = asked.count(1);
        int kept = Math.min(12, asked.count(2));
        addPadCalls(list, asked.count(6) == 72);
        addWrites(list);
        addPlaces(list, events, kept);
        for (int n : outside(0, 23)) {
            list.add(noIndex("bucket " + n, log -> log.bucket(n)));
        }
        for (int n : outside(0, 2)) {
            list.add(noIndex("ofCause " + n, log -> log.ofCause(n)));
        }
        for (int n : outside(0, 10)) {
            list.add(noIndex("count " + n, log -> log.count(n)));
        }
        for (int n : outside(0, 1)) {
            list.add(noArgument("rate " + n, log -> log.rate(n)));
        }
        for (int n : outside(1, 100)) {
            list.add(noArgument("percentile " + n, log -> log.percentile(n)));
        }
        addWrongStates(list, asked.count(7) == 0, asked.count(8));
        return list;
    }

    private static Refused noIndex(String name, Function<PauseLog, Object> call) {
        return new Refused(name, IndexOutOfBoundsException.class, call);
    }

    private static Refused noArgument(String name, Function<PauseLog, Object> call) {
        return new Refused(name, IllegalArgumentException.class, call);
    }

    private static Refused noState(String name, Function<PauseLog, Object> call) {
        return new Refused(name, IllegalStateException.class, call);
    }

    /** What is just outside of first .. last, and far outside. */
    private static int[] outside(int first, int last) {
        return new int[] {first - 1, last + 1, Integer.MIN_VALUE, Integer.MAX_VALUE, -2, last + 2};
    }

    private static void addPadCalls(List<Refused> list, boolean full) {
        char[] outside = {0, 9, 10, 31, 127, 128, 160, 255, 256 + 'a', 0xffff};
        for (char c : outside) {
            list.add(new Refused("type " + (int) c, false, log -> log.type(c)));
        }
        if (full) {
            list.add(new Refused("type into a full pad", false, log -> log.type(' ')));
        }
        list.add(noArgument("drop(-1)", log -> log.drop(-1)));
        list.add(noArgument("drop of the least int", log -> log.drop(Integer.MIN_VALUE)));
    }

    private static void addWrites(List<Refused> list) {
        int[] noShapes = {-1, -10, -100, 7, 8, 9, 12, 16, 30, 31, 90, 102, 106, 130, 202, 300, 301, 320, 1000, 1001,
            Integer.MAX_VALUE, Integer.MIN_VALUE, 2147483640, 2147483641};
        for (int shape : noShapes) {
            list.add(noArgument("write of shape " + shape, log -> log.write(shape, 0, 0, 0, 0, 0, 0)));
        }
        // Each row: a shape, and which of id, time, a, b, c and took it has.
        int[][] shapes = {{0, 0, 1}, {221, 0, 1, 2, 3, 4, 5}, {2, 0, 1, 2, 3}, {3, 0, 1, 2, 3}, {4, 0, 1}, {5, 0, 1, 5}, {6, 0, 1}};
        int[] tooGreat = {1000, 100000000, 10000, 10240000, 10000, 10000000};
        for (int[] shape : shapes) {
            for (int place : Arrays.copyOfRange(shape, 1, shape.length)) {
                addWrite(list, shape[0], place, tooGreat[place]);
                for (int number : EXTREMES) {
                    addWrite(list, shape[0], place, number);
                }
            }
        }
    }

    private static void addWrite(List<Refused> list, int shape, int place, int number) {
        int[] n = new int[6];
        n[place] = number;
        list.add(noArgument("write of shape " + shape + " with " + number + " at " + place,
            log -> log.write(shape, n[0], n[1], n[2], n[3], n[4], n[5])));
    }

    private static void addPlaces(List<Refused> list, int events, int kept) {
        for (int i : outside(0, events - 1)) {
            list.add(noIndex("event " + i, log -> log.event(i, 0)));
            list.add(noIndex("shown of event " + i, log -> log.shown(i, 0, 0)));
        }
        for (int k : outside(0, kept - 1)) {
            list.add(noIndex("diagnostic " + k, log -> log.diagnostic(k, 0)));
        }
        for (int what : outside(0, 13)) {
            list.add(noIndex("event place " + what, log -> log.event(0, what)));
        }
        for (int what : outside(0, 2)) {
            list.add(noIndex("diagnostic place " + what, log -> log.diagnostic(0, what)));
        }
        for (int l : outside(0, 3)) {
            list.add(noIndex("shown line " + l, log -> log.shown(0, l, 0)));
        }
        int[] below = {-1, -2, Integer.MIN_VALUE};
        for (int k : below) {
            list.add(noIndex("shown character " + k, log -> log.shown(0, 0, k)));
        }
    }

    private static void addWrongStates(List<Refused> list, boolean noSpan, int pauses) {
        if (noSpan) {
            list.add(noState("throughput", PauseLog::throughput));
            list.add(noState("rate 1", log -> log.rate(1)));
            list.add(noState("rate 0", log -> log.rate(0)));
        }
        if (pauses == 0) {
            list.add(noState("rate 0 without pauses", log -> log.rate(0)));
            list.add(noState("percentile 1", log -> log.percentile(1)));
            list.add(noState("percentile 100", log -> log.percentile(100)));
        }
    }
}
