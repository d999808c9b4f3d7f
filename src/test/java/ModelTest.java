import java.util.ArrayList;
import java.util.List;
import java.util.Random;
import java.util.function.Function;

/** Long runs of calls, the same ones every time, on a PauseLog and on the model of the document. */
public final class ModelTest {
    private static final int RUNS = 300;
    private static final int STEPS = 200;
    private static final int MOST_CALLS = 512;
    // What is left of an object's calls is enough for a step's changes, and for questions then.
    private static final int MOST_CHANGES = 400;

    private final Random random;
    private final int run;
    private final Model model = new Model();
    private final List<Function<PauseLog, Object>> changes = new ArrayList<>();
    private PauseLog log = new PauseLog();
    private int calls;
    private int time;
    private int id;

    private ModelTest(int run) {
        this.run = run;
        random = new Random(run);
    }

    public static void main(String[] args) {
        for (int run = 0; run < RUNS; run++) {
            ModelTest test = new ModelTest(run);
            for (int step = 0; step < STEPS && test.changes.size() < MOST_CHANGES; step++) {
                test.step();
            }
            test.compareAll();
        }
        Check.end();
    }

    private void change(String what, Function<PauseLog, Object> got, Check.Call due) {
        compare(what, got, due);
        changes.add(got);
    }

    private void compare(String what, Function<PauseLog, Object> got, Check.Call due) {
        if (calls == MOST_CALLS) {
            renew();
        }
        calls++;
        Check.same("run " + run + ": " + what, Check.answerOf(() -> got.apply(log)), Check.answerOf(due));
    }

    /** An object that has all its calls behind it is free to answer anything: a new one is brought to the same state. */
    private void renew() {
        log = new PauseLog();
        for (Function<PauseLog, Object> each : changes) {
            Check.answerOf(() -> each.apply(log));
        }
        calls = changes.size();
    }

    private void step() {
        int choice = random.nextInt(100);
        if (choice < 78) {
            giveLine();
        } else if (choice < 79) {
            change("finish", PauseLog::finish, model::finish);
            time = random.nextInt(2000);
            id = random.nextInt(3);
        } else if (choice < 82) {
            writeAnything();
        } else {
            ask();
        }
    }

    // Most lines go on with what is open, so that events come to be; the rest go astray in some way.
    private void giveLine() {
        time = Math.min(99999999, time + (random.nextInt(200) == 0 ? random.nextInt(4000000) : random.nextInt(4)));
        int pause = model.count(9);
        int mark = model.count(10);
        int shape = pause == PauseLog.NONE ? 0 : random.nextInt(3) > 0 ? 1 : 2 + random.nextInt(2);
        if (random.nextInt(6) == 0) {
            shape = mark == PauseLog.NONE ? 4 : 5 + random.nextInt(2);
        }
        if (random.nextInt(12) == 0) {
            shape = random.nextInt(7);
        }
        int used = shape == 0 || shape == 4 ? ++id : shape >= 5 ? mark : pause;
        if (random.nextInt(20) == 0) {
            used = Math.max(0, used + random.nextInt(3) - 1);
        }
        int kindAndCause = shape > 1 ? 0 : random.nextInt(20) == 0 ? 10 * random.nextInt(3) + 100 * random.nextInt(3)
            : 10 * (run % 3) + 100 * (run / 3 % 3);
        int at = random.nextInt(25) == 0 ? Math.max(0, time - random.nextInt(4)) : time;
        putWritten(shape + kindAndCause, Math.max(0, used) % 1000, at, shape == 1);
        spoil();
        change("line", PauseLog::line, model::line);
        compareCounts();
    }

    private void putWritten(int shape, int used, int at, boolean end) {
        // Eden and Old together mostly fit into what the end tells, and sometimes just do, or just don't.
        int a = end && random.nextInt(8) > 0 ? 6000 + random.nextInt(3000) : size(random.nextBoolean() ? 3000 : 3);
        int b = end && random.nextInt(8) > 0 ? 4000 + random.nextInt(3000) : size(random.nextBoolean() ? 2000 : 3);
        int c = random.nextInt(8) == 0 ? size(9000) : 1024 * (10 + random.nextInt(9990));
        int took = random.nextInt(20) == 0 ? random.nextInt(9999999) : random.nextInt(1200) >> random.nextInt(11);
        change("write", x -> x.write(shape, used, at, a, b, c, took), () -> model.write(shape, used, at, a, b, c, took));
    }

    private int size(int most) {
        return random.nextInt(5) == 0 ? 1024 * random.nextInt(3) : random.nextInt(most);
    }

    private void spoil() {
        int way = random.nextInt(40);
        if (way == 0) {
            int n = random.nextInt(50);
            change("drop", x -> x.drop(n), () -> model.drop(n));
        }
        if (way <= 2 && random.nextInt(3) == 0) {
            String some = "[0123456789.s]GC()PauseYngMixdFulAoctrEO->KMbk \u007f\u001f";
            int more = 1 + random.nextInt(way == 0 ? 3 : 80);
            for (int n = 0; n < more; n++) {
                char c = some.charAt(random.nextInt(some.length()));
                change("type", x -> x.type(c), () -> model.type(c));
            }
        }
    }

    private void writeAnything() {
        int shape = random.nextInt(4) == 0 ? random.nextInt(400) - 50 : random.nextInt(7);
        int[] n = new int[6];
        int[] edges = {-1, 0, 1, 999, 1000, 1024, 9999, 10000, 10240, 99999999, 100000000, 9999999, 10000000, 10238976,
            10240000, Integer.MAX_VALUE, Integer.MIN_VALUE};
        for (int k = 0; k < n.length; k++) {
            n[k] = random.nextInt(3) == 0 ? edges[random.nextInt(edges.length)] : random.nextInt(900);
        }
        change("write of anything", x -> x.write(shape, n[0], n[1], n[2], n[3], n[4], n[5]),
            () -> model.write(shape, n[0], n[1], n[2], n[3], n[4], n[5]));
        compare("count(6)", x -> x.count(6), () -> model.count(6));
    }

    private void ask() {
        int i = random.nextInt(14) - 1;
        int what = random.nextInt(16) - 1;
        int k = random.nextInt(75) - 1;
        int p = random.nextInt(103) - 1;
        int l = random.nextInt(6) - 1;
        compare("event", x -> x.event(i, what), () -> model.event(i, what));
        compare("shown", x -> x.shown(i, l, k), () -> model.shown(i, l, k));
        compare("diagnostic", x -> x.diagnostic(i, l), () -> model.diagnostic(i, l));
        compare("percentile", x -> x.percentile(p), () -> model.percentile(p));
        compare("throughput", PauseLog::throughput, model::throughput);
        compare("rate", x -> x.rate(l), () -> model.rate(l));
        compare("bucket", x -> x.bucket(what), () -> model.bucket(what));
        compare("ofCause", x -> x.ofCause(l), () -> model.ofCause(l));
    }

    private void compareCounts() {
        for (int n = -1; n <= 11; n++) {
            int what = n;
            compare("count(" + n + ")", x -> x.count(what), () -> model.count(what));
        }
    }

    private void compareAll() {
        compareCounts();
        for (int n = -1; n <= 41; n++) {
            int i = n;
            for (int w = -1; w <= 14; w++) {
                int what = w;
                compare("event(" + i + ", " + w + ")", x -> x.event(i, what), () -> model.event(i, what));
                compare("diagnostic(" + i + ", " + w + ")", x -> x.diagnostic(i, what), () -> model.diagnostic(i, what));
            }
            for (int l = 0; l < 5; l++) {
                compareShown(i, l);
            }
            compare("bucket(" + i + ")", x -> x.bucket(i), () -> model.bucket(i));
        }
        for (int n = 0; n <= 101; n++) {
            int p = n;
            compare("percentile(" + n + ")", x -> x.percentile(p), () -> model.percentile(p));
        }
        compare("throughput", PauseLog::throughput, model::throughput);
        compare("rate(0)", x -> x.rate(0), () -> model.rate(0));
        compare("rate(1)", x -> x.rate(1), () -> model.rate(1));
    }

    private void compareShown(int i, int l) {
        Object due = null;
        for (int n = 0; n == 0 || due instanceof Integer c && c != PauseLog.NONE; n++) {
            int k = n;
            Object answer = Check.answerOf(() -> model.shown(i, l, k));
            compare("shown(" + i + ", " + l + ", " + k + ")", x -> x.shown(i, l, k), () -> answer);
            due = answer;
        }
    }
}
