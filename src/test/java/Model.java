import java.util.ArrayList;
import java.util.Arrays;
import java.util.List;
import java.util.regex.Matcher;
import java.util.regex.Pattern;

/**
 * The document's words once more, written another way: lines by a regular expression, and every
 * number reckoned anew from all that has been, so that it shares no mistake of bookkeeping.
 */
final class Model {
    private static final String SIZE = "((?:0|[1-9][0-9]{0,3})[KM])";
    private static final String TOOK = "((?:0|[1-9][0-9]{0,3})\\.[0-9]{3})ms";
    private static final Pattern LINE = Pattern.compile(
        "\\[((?:0|[1-9][0-9]{0,4})\\.[0-9]{3})s\\]GC\\((0|[1-9][0-9]{0,2})\\) (?:"
        + "Pause (Young|Mixed|Full) \\((Alloc|Meta|User)\\)(?: " + SIZE + "->" + SIZE + "\\(" + SIZE + "\\) " + TOOK + ")?"
        + "|(Eden|Old) " + SIZE + "->" + SIZE
        + "|(Mark)(?: (?:" + TOOK + "|(Abort)))?)");
    private static final List<String> KINDS = List.of("Young", "Mixed", "Full");
    private static final List<String> CAUSES = List.of("Alloc", "Meta", "User");

    /** One line that was read; ownerless while its pause or mark is open. */
    private static final class Item {
        int number, log, time, id, kind, cause, a, b, c, took;
        char shape;
    }

    private static final class Group {
        final List<Item> items = new ArrayList<>();

        Item of(char shape) {
            return items.stream().filter(item -> item.shape == shape).findFirst().orElse(null);
        }

        Item first() {
            return items.get(0);
        }

        Item last() {
            return items.get(items.size() - 1);
        }

        boolean isPause() {
            return first().shape == 'B';
        }

        long took() {
            return last().shape == 'A'
                ? Math.min(1000L * (last().time - first().time), Integer.MAX_VALUE) : last().took;
        }
    }

    private String pad = "";
    private int logs = 0;
    private int lines = 0;
    private int linesOfDiagnostics = 0;
    private final List<Item> timed = new ArrayList<>();
    private final List<Item> begun = new ArrayList<>();
    private final List<Group> events = new ArrayList<>();
    private final List<int[]> diagnostics = new ArrayList<>();
    private Group pause, mark;

    boolean type(char c) {
        if (pad.length() == 72 || c < 32 || c > 126) {
            return false;
        }
        pad += c;
        return true;
    }

    int drop(int n) {
        if (n < 0) {
            throw new IllegalArgumentException();
        }
        int left = Math.max(0, pad.length() - n);
        int gone = pad.length() - left;
        pad = pad.substring(0, left);
        return gone;
    }

    int write(int shape, int id, int time, int a, int b, int c, int took) {
        String text = null;
        String head = String.format("[%d.%03ds]GC(%d) ", time / 1000, time % 1000, id);
        String ms = String.format("%d.%03dms", took / 1000, took % 1000);
        if (shape >= 2 && shape <= 6) {
            text = head + new String[] {"Eden " + size(a) + "->" + size(b), "Old " + size(a) + "->" + size(b),
                "Mark", "Mark " + ms, "Mark Abort"}[shape - 2];
        }
        for (int kind = 0; kind < 3; kind++) {
            for (int cause = 0; cause < 3; cause++) {
                String name = head + "Pause " + KINDS.get(kind) + " (" + CAUSES.get(cause) + ")";
                if (shape == 10 * kind + 100 * cause) {
                    text = name;
                }
                if (shape == 1 + 10 * kind + 100 * cause) {
                    text = name + " " + size(a) + "->" + size(b) + "(" + size(c) + ") " + ms;
                }
            }
        }
        if (text == null || !LINE.matcher(text).matches()) {
            throw new IllegalArgumentException();
        }
        pad = text;
        return text.length();
    }

    private static String size(int k) {
        return k != 0 && k % 1024 == 0 ? k / 1024 + "M" : k + "K";
    }

    private static int sizeOf(String text) {
        int number = Integer.parseInt(text.substring(0, text.length() - 1));
        return text.endsWith("M") ? 1024 * number : number;
    }

    private static int decimalOf(String text) {
        return Integer.parseInt(text.replace(".", ""));
    }

    static boolean isLine(String text) {
        return LINE.matcher(text).matches();
    }

    static int faultOf(String text) {
        int fault = text.length();
        while (true) {
            Matcher matcher = LINE.matcher(text.substring(0, fault));
            if (matcher.matches() || matcher.hitEnd()) {
                return fault;
            }
            fault--;
        }
    }

    private Item itemOf(Matcher m) {
        Item item = new Item();
        item.number = lines;
        item.log = logs;
        item.time = decimalOf(m.group(1));
        item.id = Integer.parseInt(m.group(2));
        if (m.group(3) != null) {
            item.kind = KINDS.indexOf(m.group(3));
            item.cause = CAUSES.indexOf(m.group(4));
            item.shape = m.group(5) == null ? 'B' : 'E';
        } else if (m.group(9) != null) {
            item.shape = m.group(9).equals("Eden") ? 'e' : 'o';
            item.a = sizeOf(m.group(10));
            item.b = sizeOf(m.group(11));
        } else {
            item.shape = m.group(13) != null ? 'D' : m.group(14) != null ? 'A' : 'M';
            item.took = m.group(13) != null ? decimalOf(m.group(13)) : 0;
        }
        if (item.shape == 'E') {
            item.a = sizeOf(m.group(5));
            item.b = sizeOf(m.group(6));
            item.c = sizeOf(m.group(7));
            item.took = decimalOf(m.group(8));
        }
        return item;
    }

    int line() {
        String text = pad;
        pad = "";
        lines++;
        Matcher m = LINE.matcher(text);
        int wrong = PauseLog.SYNTAX;
        Item item = null;
        if (m.matches()) {
            item = itemOf(m);
            wrong = wrongOf(item);
        }
        if (wrong != 0) {
            diagnostics.add(new int[] {wrong, lines, item == null ? faultOf(text) : 0});
            linesOfDiagnostics++;
        }
        if (wrong != PauseLog.SYNTAX && wrong != PauseLog.BACK) {
            timed.add(item);
        }
        return wrong != 0 ? -wrong : take(item);
    }

    private int wrongOf(Item item) {
        char shape = item.shape;
        boolean begins = shape == 'B' || shape == 'M';
        Group open = shape == 'M' || shape == 'D' || shape == 'A' ? mark : pause;
        if (timed.stream().anyMatch(other -> other.log == logs && other.time > item.time)) {
            return PauseLog.BACK;
        }
        if (begins && begun.stream().anyMatch(other -> other.log == logs && other.id >= item.id)) {
            return PauseLog.STALE;
        }
        if (begins) {
            return open != null ? PauseLog.BUSY : 0;
        }
        if (open == null || open.first().id != item.id) {
            return PauseLog.UNKNOWN;
        }
        if ((shape == 'e' || shape == 'o') && open.of(shape) != null) {
            return PauseLog.WRONG;
        }
        if (shape == 'E' && isWrongEnd(item, open)) {
            return PauseLog.WRONG;
        }
        if ((shape == 'E' || shape == 'D') && item.took > 1000L * (item.time - open.first().time) + 999) {
            return PauseLog.WRONG;
        }
        return "EDA".indexOf(shape) >= 0 && events.size() == 40 ? PauseLog.FULL : 0;
    }

    private static boolean isWrongEnd(Item end, Group open) {
        int before = open.items.stream().filter(item -> item.shape != 'B').mapToInt(item -> item.a).sum();
        int after = open.items.stream().filter(item -> item.shape != 'B').mapToInt(item -> item.b).sum();
        return end.kind != open.first().kind || end.cause != open.first().cause
            || Math.max(end.a, end.b) > end.c || end.a < before || end.b < after;
    }

    private int take(Item item) {
        boolean ofMark = "MDA".indexOf(item.shape) >= 0;
        Group open = ofMark ? mark : pause;
        if (item.shape == 'B' || item.shape == 'M') {
            begun.add(item);
            open = new Group();
        }
        open.items.add(item);
        boolean ends = "EDA".indexOf(item.shape) >= 0;
        if (ends) {
            events.add(open);
            open = null;
        }
        if (ofMark) {
            mark = open;
        } else {
            pause = open;
        }
        return ends ? 1 : 0;
    }

    int finish() {
        int dropped = 0;
        for (Group open : Arrays.asList(pause, mark)) {
            if (open != null) {
                diagnostics.add(new int[] {PauseLog.TRUNCATED, open.first().number, 0});
                dropped += open.items.size();
            }
        }
        pause = null;
        mark = null;
        linesOfDiagnostics += dropped;
        logs++;
        return dropped;
    }

    private static <T> T at(List<T> list, int i) {
        if (i < 0 || i >= list.size()) {
            throw new IndexOutOfBoundsException();
        }
        return list.get(i);
    }

    int event(int i, int what) {
        Group e = at(events, i);
        Item first = e.first(), last = e.last(), eden = e.of('e'), old = e.of('o');
        int none = PauseLog.NONE;
        return at(List.of(
            e.isPause() ? first.kind : last.shape == 'A' ? 4 : 3, first.id, first.time, last.time,
            e.isPause() ? first.cause : none, e.isPause() ? last.a : none, e.isPause() ? last.b : none,
            e.isPause() ? last.c : none, (int) e.took(), eden == null ? none : eden.a, eden == null ? none : eden.b,
            old == null ? none : old.a, old == null ? none : old.b, e.items.size()), what);
    }

    int shown(int i, int l, int k) {
        String text = textOf(i, l);
        if (k < 0) {
            throw new IndexOutOfBoundsException();
        }
        return k < text.length() ? text.charAt(k) : PauseLog.NONE;
    }

    private String textOf(int i, int l) {
        Group e = at(events, i);
        Model writer = new Model();
        List<String> texts = new ArrayList<>();
        for (char shape : "BMeoEDA".toCharArray()) {
            Item item = e.of(shape);
            if (item != null) {
                int time = shape == 'e' || shape == 'o' ? e.first().time : item.time;
                int plus = shape == 'B' || shape == 'E' ? 10 * item.kind + 100 * item.cause : 0;
                writer.write("BEeoMDA".indexOf(shape) + plus, item.id, time, item.a, item.b, item.c, item.took);
                texts.add(writer.pad);
            }
        }
        return at(texts, l);
    }

    int diagnostic(int k, int what) {
        if (k < 0 || k >= Math.min(12, diagnostics.size()) || what < 0 || what > 2) {
            throw new IndexOutOfBoundsException();
        }
        return diagnostics.get(diagnostics.size() - 1 - k)[what];
    }

    private long span() {
        long sum = 0;
        for (int n = 0; n <= logs; n++) {
            int log = n;
            int[] times = timed.stream().filter(item -> item.log == log).mapToInt(item -> item.time).toArray();
            sum += times.length == 0 ? 0 : Arrays.stream(times).max().getAsInt() - times[0];
        }
        return sum;
    }

    private List<Group> pauses() {
        return events.stream().filter(Group::isPause).toList();
    }

    double throughput() {
        if (span() == 0) {
            throw new IllegalStateException();
        }
        return 1.0 - (double) pauses().stream().mapToLong(Group::took).sum() / (double) (1000 * span());
    }

    double rate(int which) {
        if (which < 0 || which > 1) {
            throw new IllegalArgumentException();
        }
        long amount = 0;
        long time = which == 0 ? 0 : span();
        List<Group> pauses = pauses();
        for (int n = 0; n < pauses.size(); n++) {
            Group each = pauses.get(n);
            Group ahead = n == 0 ? null : pauses.get(n - 1);
            if (which == 1 && each.of('o') != null) {
                amount += each.of('o').b - each.of('o').a;
            }
            if (which == 0 && ahead != null && ahead.last().log == each.last().log) {
                amount += each.last().a - ahead.last().b;
                time += each.first().time - ahead.last().time;
            }
        }
        if (time == 0) {
            throw new IllegalStateException();
        }
        return (double) amount / (double) time;
    }

    int percentile(int p) {
        if (p < 1 || p > 100) {
            throw new IllegalArgumentException();
        }
        long[] took = pauses().stream().mapToLong(Group::took).sorted().toArray();
        if (took.length == 0) {
            throw new IllegalStateException();
        }
        return (int) took[(p * took.length + 99) / 100 - 1];
    }

    int bucket(int b) {
        if (b < 0 || b > 23) {
            throw new IndexOutOfBoundsException();
        }
        return (int) pauses().stream().filter(e -> 63 - Long.numberOfLeadingZeros(Math.max(1, e.took())) == b).count();
    }

    long ofCause(int cause) {
        if (cause < 0 || cause > 2) {
            throw new IndexOutOfBoundsException();
        }
        return pauses().stream().filter(e -> e.first().cause == cause).mapToLong(Group::took).sum();
    }

    int count(int what) {
        int ofEvents = events.stream().mapToInt(e -> e.items.size()).sum();
        return at(List.of(lines, events.size(), diagnostics.size(), ofEvents, linesOfDiagnostics,
            lines - ofEvents - linesOfDiagnostics, pad.length(), (int) span(), pauses().size(),
            pause == null ? PauseLog.NONE : pause.first().id, mark == null ? PauseLog.NONE : mark.first().id), what);
    }
}
