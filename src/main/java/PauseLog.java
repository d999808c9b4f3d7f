/**
 * Joins the lines of a log of garbage collections to events, tells what is wrong with the
 * other lines, and reckons over the events. The promises of DOC.md say what each call answers.
 */
public final class PauseLog {
    public static final int NONE = -1;
    public static final int SYNTAX = 1, BACK = 2, STALE = 3, BUSY = 4, UNKNOWN = 5, WRONG = 6, FULL = 7, TRUNCATED = 8;

    private static final int TAKEN = 0, MADE_AN_EVENT = 1;
    private static final int BEGIN = 0, END = 1, EDEN = 2, OLD = 3, MARK = 4, MARKED = 5, ABORT = 6;
    private static final int YOUNG_KIND = 0, MIXED_KIND = 1, FULL_KIND = 2, MARK_KIND = 3, ABORTED_KIND = 4;
    private static final int ALLOC_CAUSE = 0, META_CAUSE = 1, USER_CAUSE = 2;

    private static final int PAD_LENGTH = 72, MOST_EVENTS = 40, KEPT_DIAGNOSTICS = 12;
    private static final int EVENT_FACTS = 14, BUCKETS = 24;
    private static final int TIME_DIGITS = 5, ID_DIGITS = 3, SIZE_DIGITS = 4, TOOK_DIGITS = 4;
    private static final int MOST_ID = 999, MOST_TIME = 99999999, MOST_SIZE_NUMBER = 9999, MOST_TOOK = 9999999;
    private static final int MOST_ABORTED_TOOK = 2147483647;
    private static final int K_PER_M = 1024;

    private final Text pad;
    private final Text page;
    private final Entry entry;
    private final Events events;
    private final Diagnostics diagnostics;
    private final Times times;
    private final Sums sums;
    private Event openPause;
    private Event openMark;
    private int greatestId;
    private int lines;
    private int linesOfEvents;

    public PauseLog() {
        pad = new Text();
        page = new Text();
        entry = new Entry();
        events = new Events();
        diagnostics = new Diagnostics();
        times = new Times();
        sums = new Sums();
        greatestId = NONE;
    }

    public boolean type(char c) {
        return c >= 32 && c <= 126 && pad.add(c);
    }

    public int drop(int n) throws IllegalArgumentException {
        if (n < 0) {
            throw new IllegalArgumentException("less than no characters");
        }
        return pad.cut(n);
    }

    public int write(int shape, int id, int time, int a, int b, int c, int took) throws IllegalArgumentException {
        if (!entry.setShape(shape)) {
            throw new IllegalArgumentException("no such shape");
        }
        entry.id = id;
        entry.time = time;
        entry.before = a;
        entry.after = b;
        entry.capacity = c;
        entry.took = took;
        if (!entry.hasText()) {
            throw new IllegalArgumentException("a number has no text");
        }
        entry.putOn(pad);
        return pad.length;
    }

    public int line() {
        lines++;
        Reader reader = new Reader(pad);
        reader.readHead(entry);
        reader.readMessage(entry);
        boolean readable = reader.hasReadAll();
        pad.clear();
        int answer = readable ? answerTo(entry) : -SYNTAX;
        if (answer < 0) {
            diagnostics.add(-answer, lines, readable ? 0 : reader.at, 1);
        }
        return answer;
    }

    public int finish() {
        int dropped = truncate(openPause) + truncate(openMark);
        openPause = null;
        openMark = null;
        greatestId = NONE;
        times.endLog();
        sums.endLog();
        return dropped;
    }

    public int event(int i, int what) throws IndexOutOfBoundsException {
        Event found = events.get(i);
        if (found == null || what < 0 || what >= EVENT_FACTS) {
            throw new IndexOutOfBoundsException("no such event or place");
        }
        return found.fact(what);
    }

    public int shown(int i, int l, int k) throws IndexOutOfBoundsException {
        Event found = events.get(i);
        if (found == null || l < 0 || l >= found.lines || k < 0) {
            throw new IndexOutOfBoundsException("no such event, line or character");
        }
        found.tell(l, entry);
        entry.putOn(page);
        return page.get(k);
    }

    public int diagnostic(int k, int what) throws IndexOutOfBoundsException {
        if (!diagnostics.has(k) || what < 0 || what > 2) {
            throw new IndexOutOfBoundsException("no such diagnostic or place");
        }
        return diagnostics.fact(k, what);
    }

    public double throughput() throws IllegalStateException {
        long span = times.span();
        if (span == 0) {
            throw new IllegalStateException("the span is 0");
        }
        return 1.0 - (double) sums.took / (double) (1000L * span);
    }

    public double rate(int which) throws IllegalArgumentException, IllegalStateException {
        if (which != 0 && which != 1) {
            throw new IllegalArgumentException("no such rate");
        }
        long amount = which == 0 ? sums.allocated : sums.promoted;
        long time = which == 0 ? sums.between : times.span();
        if (time == 0) {
            throw new IllegalStateException("no time to divide by");
        }
        return (double) amount / (double) time;
    }

    public int percentile(int p) throws IllegalArgumentException, IllegalStateException {
        if (p < 1 || p > 100) {
            throw new IllegalArgumentException("not 1 to 100");
        }
        if (sums.pauses == 0) {
            throw new IllegalStateException("no pauses");
        }
        // No pause took more, so this is the answer if none is found that took less.
        int least = MOST_TOOK;
        for (int i = 0; i < events.size; i++) {
            Event each = events.get(i);
            if (each != null && each.isPause() && each.took < least
                    && 100 * events.pausesThatTook(0, each.took) >= p * sums.pauses) {
                least = each.took;
            }
        }
        return least;
    }

    public int bucket(int b) throws IndexOutOfBoundsException {
        if (b < 0 || b >= BUCKETS) {
            throw new IndexOutOfBoundsException("no such bucket");
        }
        int least = b == 0 ? 0 : 1 << b;
        return events.pausesThatTook(least, (1 << (b + 1)) - 1);
    }

    public long ofCause(int cause) throws IndexOutOfBoundsException {
        if (cause < ALLOC_CAUSE || cause > USER_CAUSE) {
            throw new IndexOutOfBoundsException("no such cause");
        }
        long sum = 0;
        for (int i = 0; i < events.size; i++) {
            Event each = events.get(i);
            if (each != null && each.isPause() && each.cause == cause) {
                sum += each.took;
            }
        }
        return sum;
    }

    public int count(int what) throws IndexOutOfBoundsException {
        switch (what) {
            case 0: return lines;
            case 1: return events.size;
            case 2: return diagnostics.made;
            case 3: return linesOfEvents;
            case 4: return diagnostics.lines;
            case 5: return linesOf(openPause) + linesOf(openMark);
            case 6: return pad.length;
            case 7: return (int) times.span();
            case 8: return sums.pauses;
            case 9: return idOf(openPause);
            case 10: return idOf(openMark);
            default: throw new IndexOutOfBoundsException("nothing of this number is counted");
        }
    }

    private static int linesOf(Event open) {
        return open == null ? 0 : open.lines;
    }

    private static int idOf(Event open) {
        return open == null ? NONE : open.id;
    }

    private int truncate(Event open) {
        if (open == null) {
            return 0;
        }
        diagnostics.add(TRUNCATED, open.firstLine, 0, open.lines);
        return open.lines;
    }

    private int answerTo(Entry said) {
        if (times.isBack(said.time)) {
            return -BACK;
        }
        // Also a line that turns out wrong below has a time that later ones may not go behind.
        times.see(said.time);
        switch (said.shape) {
            case BEGIN:
            case MARK:
                return begin(said);
            case EDEN:
            case OLD:
                return addPart(said);
            case END:
                return endPause(said);
            default:
                return endMark(said);
        }
    }

    private int begin(Entry said) {
        boolean isMark = said.shape == MARK;
        if (said.id <= greatestId) {
            return -STALE;
        }
        if ((isMark ? openMark : openPause) != null) {
            return -BUSY;
        }
        Event begun = new Event(said, lines);
        if (isMark) {
            openMark = begun;
        } else {
            openPause = begun;
        }
        greatestId = said.id;
        return TAKEN;
    }

    private int addPart(Entry said) {
        Event open = openPause;
        if (open == null || open.id != said.id) {
            return -UNKNOWN;
        }
        return open.addPart(said) ? TAKEN : -WRONG;
    }

    private int endPause(Entry said) {
        Event open = openPause;
        if (open == null || open.id != said.id) {
            return -UNKNOWN;
        }
        if (open.isAnotherPauseThan(said) || open.hasNoRoomIn(said) || open.isTooShortFor(said)) {
            return -WRONG;
        }
        if (events.isFull()) {
            return -FULL;
        }
        open.endAsPause(said);
        openPause = null;
        sums.addPause(open);
        return keep(open);
    }

    private int endMark(Entry said) {
        Event open = openMark;
        if (open == null || open.id != said.id) {
            return -UNKNOWN;
        }
        if (said.shape == MARKED && open.isTooShortFor(said)) {
            return -WRONG;
        }
        if (events.isFull()) {
            return -FULL;
        }
        open.endAsMark(said);
        openMark = null;
        return keep(open);
    }

    private int keep(Event ended) {
        events.add(ended);
        linesOfEvents += ended.lines;
        return MADE_AN_EVENT;
    }

    private static String kindWord(int kind) {
        switch (kind) {
            case MIXED_KIND: return "Mixed";
            case FULL_KIND: return "Full";
            default: return "Young";
        }
    }

    private static String causeWord(int cause) {
        switch (cause) {
            case META_CAUSE: return "Meta";
            case USER_CAUSE: return "User";
            default: return "Alloc";
        }
    }

    /** A row of characters; 72 are enough for every line's text, the longest of which has 70. */
    private static final class Text {
        private final char[] row;
        int length;

        Text() {
            row = new char[PAD_LENGTH];
        }

        void clear() {
            length = 0;
        }

        boolean add(char c) {
            if (length < 0 || length >= row.length) {
                return false;
            }
            row[length] = c;
            length++;
            return true;
        }

        int cut(int n) {
            int gone = Math.min(n, length);
            length -= gone;
            return gone;
        }

        int get(int k) {
            if (k < 0 || k >= length || k >= row.length) {
                return NONE;
            }
            return row[k];
        }

        void addWord(String word) {
            for (int k = 0; k < word.length(); k++) {
                add(word.charAt(k));
            }
        }

        void addNumber(int number) {
            for (int unit = 10000; unit > 0; unit /= 10) {
                if (number >= unit || unit == 1) {
                    add((char) ('0' + number / unit % 10));
                }
            }
        }

        void addDecimal(int thousandths) {
            addNumber(thousandths / 1000);
            add('.');
            add((char) ('0' + thousandths / 100 % 10));
            add((char) ('0' + thousandths / 10 % 10));
            add((char) ('0' + thousandths % 10));
        }

        void addSize(int size) {
            boolean inM = size != 0 && size % K_PER_M == 0;
            addNumber(inM ? size / K_PER_M : size);
            add(inM ? 'M' : 'K');
        }
    }

    /** What one line says. Only the fields that its shape has mean anything. */
    private static final class Entry {
        int shape;
        int kind;
        int cause;
        int id;
        int time;
        int before;
        int after;
        int capacity;
        int took;

        boolean setShape(int joined) {
            if (joined < 0) {
                return false;
            }
            shape = joined % 10;
            kind = joined / 10 % 10;
            cause = joined / 100;
            if (shape == BEGIN || shape == END) {
                return kind <= FULL_KIND && cause <= USER_CAUSE;
            }
            return joined <= ABORT;
        }

        boolean hasText() {
            boolean sized = shape == END || shape == EDEN || shape == OLD;
            boolean timed = shape == END || shape == MARKED;
            return id >= 0 && id <= MOST_ID
                && time >= 0 && time <= MOST_TIME
                && (!sized || isSize(before) && isSize(after))
                && (shape != END || isSize(capacity))
                && (!timed || took >= 0 && took <= MOST_TOOK);
        }

        private static boolean isSize(int size) {
            return size >= 0 && (size <= MOST_SIZE_NUMBER
                || size % K_PER_M == 0 && size / K_PER_M <= MOST_SIZE_NUMBER);
        }

        void putOn(Text text) {
            text.clear();
            text.addWord("[");
            text.addDecimal(time);
            text.addWord("s]GC(");
            text.addNumber(id);
            text.addWord(") ");
            switch (shape) {
                case EDEN:
                    text.addWord("Eden ");
                    putSizes(text);
                    break;
                case OLD:
                    text.addWord("Old ");
                    putSizes(text);
                    break;
                case MARK:
                    text.addWord("Mark");
                    break;
                case MARKED:
                    text.addWord("Mark ");
                    putTook(text);
                    break;
                case ABORT:
                    text.addWord("Mark Abort");
                    break;
                default:
                    putPause(text);
                    break;
            }
        }

        private void putPause(Text text) {
            text.addWord("Pause ");
            text.addWord(kindWord(kind));
            text.addWord(" (");
            text.addWord(causeWord(cause));
            text.addWord(")");
            if (shape == END) {
                text.addWord(" ");
                putSizes(text);
                text.addWord("(");
                text.addSize(capacity);
                text.addWord(") ");
                putTook(text);
            }
        }

        private void putSizes(Text text) {
            text.addSize(before);
            text.addWord("->");
            text.addSize(after);
        }

        private void putTook(Text text) {
            text.addDecimal(took);
            text.addWord("ms");
        }
    }

    /**
     * Reads a text as a line, once. From the first character that can't stand where it does,
     * it goes on no more, so that {@code at} is the fault then.
     */
    private static final class Reader {
        private final Text text;
        private boolean broken;
        int at;

        Reader(Text text) {
            this.text = text;
        }

        void readHead(Entry entry) {
            pass("[");
            entry.time = decimal(TIME_DIGITS);
            pass("s]GC(");
            entry.id = number(ID_DIGITS);
            pass(") ");
        }

        // The words that may stand in one place differ in their first letters: one letter tells.
        void readMessage(Entry entry) {
            switch (text.get(at)) {
                case 'E':
                    pass("Eden ");
                    entry.shape = EDEN;
                    readSizes(entry);
                    break;
                case 'O':
                    pass("Old ");
                    entry.shape = OLD;
                    readSizes(entry);
                    break;
                case 'M':
                    pass("Mark");
                    readRestOfMark(entry);
                    break;
                default:
                    pass("Pause ");
                    entry.kind = kind();
                    pass(" (");
                    entry.cause = cause();
                    pass(")");
                    readRestOfPause(entry);
                    break;
            }
        }

        private void readRestOfMark(Entry entry) {
            if (isAtEnd()) {
                entry.shape = MARK;
                return;
            }
            pass(" ");
            if (text.get(at) == 'A') {
                pass("Abort");
                entry.shape = ABORT;
                return;
            }
            entry.shape = MARKED;
            entry.took = took();
        }

        private void readRestOfPause(Entry entry) {
            if (isAtEnd()) {
                entry.shape = BEGIN;
                return;
            }
            entry.shape = END;
            pass(" ");
            readSizes(entry);
            pass("(");
            entry.capacity = size();
            pass(") ");
            entry.took = took();
        }

        private void readSizes(Entry entry) {
            entry.before = size();
            pass("->");
            entry.after = size();
        }

        private int kind() {
            int letter = text.get(at);
            int kind = letter == 'M' ? MIXED_KIND : letter == 'F' ? FULL_KIND : YOUNG_KIND;
            pass(kindWord(kind));
            return kind;
        }

        private int cause() {
            int letter = text.get(at);
            int cause = letter == 'M' ? META_CAUSE : letter == 'U' ? USER_CAUSE : ALLOC_CAUSE;
            pass(causeWord(cause));
            return cause;
        }

        private int size() {
            int number = number(SIZE_DIGITS);
            boolean inM = text.get(at) == 'M';
            pass(inM ? "M" : "K");
            return inM ? number * K_PER_M : number;
        }

        private int took() {
            int took = decimal(TOOK_DIGITS);
            pass("ms");
            return took;
        }

        private int decimal(int mostDigits) {
            int value = number(mostDigits);
            pass(".");
            for (int n = 0; n < 3; n++) {
                // One digit at a time, since here, unlike in a number, a 0 may stand ahead.
                value = value * 10 + number(1);
            }
            return value;
        }

        private int number(int mostDigits) {
            int value = NONE;
            // Behind a 0 ahead no digit is read: it is left as what can't stand there.
            for (int n = 0; n < mostDigits && value != 0 && !broken; n++) {
                int c = text.get(at);
                if (c < '0' || c > '9') {
                    break;
                }
                value = Math.max(value, 0) * 10 + c - '0';
                at++;
            }
            broken = broken || value == NONE;
            return value;
        }

        private void pass(String word) {
            for (int k = 0; k < word.length() && !broken; k++) {
                if (text.get(at) == word.charAt(k)) {
                    at++;
                } else {
                    broken = true;
                }
            }
        }

        private boolean isAtEnd() {
            return at == text.length;
        }

        boolean hasReadAll() {
            return !broken && isAtEnd();
        }
    }

    /** A pause or a mark, from its first line on. */
    private static final class Event {
        final int firstLine;
        final int id;
        final int cause;
        final int beginTime;
        private int kind;
        int endTime;
        int before;
        int after;
        private int capacity;
        int took;
        private int edenBefore;
        private int edenAfter;
        int oldBefore;
        int oldAfter;
        int lines;

        Event(Entry first, int firstLine) {
            boolean isMark = first.shape == MARK;
            this.firstLine = firstLine;
            id = first.id;
            cause = isMark ? NONE : first.cause;
            beginTime = first.time;
            kind = isMark ? MARK_KIND : first.kind;
            before = NONE;
            after = NONE;
            capacity = NONE;
            edenBefore = NONE;
            edenAfter = NONE;
            oldBefore = NONE;
            oldAfter = NONE;
            lines = 1;
        }

        boolean isPause() {
            return kind <= FULL_KIND;
        }

        boolean addPart(Entry part) {
            boolean isEden = part.shape == EDEN;
            if ((isEden ? edenBefore : oldBefore) != NONE) {
                return false;
            }
            if (isEden) {
                edenBefore = part.before;
                edenAfter = part.after;
            } else {
                oldBefore = part.before;
                oldAfter = part.after;
            }
            lines++;
            return true;
        }

        boolean isAnotherPauseThan(Entry end) {
            return end.kind != kind || end.cause != cause;
        }

        boolean hasNoRoomIn(Entry end) {
            return end.before > end.capacity
                || end.after > end.capacity
                || end.before < Math.max(edenBefore, 0) + Math.max(oldBefore, 0)
                || end.after < Math.max(edenAfter, 0) + Math.max(oldAfter, 0);
        }

        boolean isTooShortFor(Entry end) {
            return end.took > microsecondsUntil(end) + 999;
        }

        private long microsecondsUntil(Entry end) {
            return 1000L * (end.time - beginTime);
        }

        void endAsPause(Entry end) {
            endTime = end.time;
            before = end.before;
            after = end.after;
            capacity = end.capacity;
            took = end.took;
            lines++;
        }

        void endAsMark(Entry end) {
            boolean aborted = end.shape == ABORT;
            endTime = end.time;
            kind = aborted ? ABORTED_KIND : MARK_KIND;
            took = aborted ? (int) Math.min(microsecondsUntil(end), (long) MOST_ABORTED_TOOK) : end.took;
            lines++;
        }

        int fact(int what) {
            switch (what) {
                case 0: return kind;
                case 1: return id;
                case 2: return beginTime;
                case 3: return endTime;
                case 4: return cause;
                case 5: return before;
                case 6: return after;
                case 7: return capacity;
                case 8: return took;
                case 9: return edenBefore;
                case 10: return edenAfter;
                case 11: return oldBefore;
                case 12: return oldAfter;
                default: return lines;
            }
        }

        void tell(int l, Entry entry) {
            entry.id = id;
            entry.time = beginTime;
            entry.kind = kind;
            entry.cause = cause;
            if (l == 0) {
                entry.shape = isPause() ? BEGIN : MARK;
            } else if (l == lines - 1) {
                tellEnd(entry);
            } else if (l == 1 && edenBefore != NONE) {
                entry.shape = EDEN;
                entry.before = edenBefore;
                entry.after = edenAfter;
            } else {
                entry.shape = OLD;
                entry.before = oldBefore;
                entry.after = oldAfter;
            }
        }

        private void tellEnd(Entry entry) {
            entry.shape = isPause() ? END : kind == MARK_KIND ? MARKED : ABORT;
            entry.time = endTime;
            entry.before = before;
            entry.after = after;
            entry.capacity = capacity;
            entry.took = took;
        }
    }

    /** The events in their order. */
    private static final class Events {
        private final Event[] row;
        int size;

        Events() {
            row = new Event[MOST_EVENTS];
        }

        boolean isFull() {
            return size >= row.length;
        }

        void add(Event ended) {
            if (size >= 0 && size < row.length) {
                row[size] = ended;
                size++;
            }
        }

        Event get(int i) {
            return i >= 0 && i < size && i < row.length ? row[i] : null;
        }

        int pausesThatTook(int least, int most) {
            int found = 0;
            for (int i = 0; i < size; i++) {
                Event each = get(i);
                if (each != null && each.isPause() && each.took >= least && each.took <= most) {
                    found++;
                }
            }
            return found;
        }
    }

    /** The latest diagnostics, the newest at 0, and how many there have been. */
    private static final class Diagnostics {
        private final int[] numbers;
        private final int[] lineNumbers;
        private final int[] faults;
        int made;
        int lines;

        Diagnostics() {
            numbers = new int[KEPT_DIAGNOSTICS];
            lineNumbers = new int[KEPT_DIAGNOSTICS];
            faults = new int[KEPT_DIAGNOSTICS];
        }

        void add(int number, int lineNumber, int fault, int linesOfIt) {
            for (int k = KEPT_DIAGNOSTICS - 1; k > 0; k--) {
                numbers[k] = numbers[k - 1];
                lineNumbers[k] = lineNumbers[k - 1];
                faults[k] = faults[k - 1];
            }
            numbers[0] = number;
            lineNumbers[0] = lineNumber;
            faults[0] = fault;
            made++;
            lines += linesOfIt;
        }

        boolean has(int k) {
            return k >= 0 && k < made && k < KEPT_DIAGNOSTICS;
        }

        int fact(int k, int what) {
            if (!has(k)) {
                return NONE;
            }
            return what == 0 ? numbers[k] : what == 1 ? lineNumbers[k] : faults[k];
        }
    }

    /** The times of the lines that were neither SYNTAX nor BACK: they never go back, so the latest is the greatest. */
    private static final class Times {
        private long spanOfEndedLogs;
        private int first;
        private int latest;

        Times() {
            first = NONE;
            latest = NONE;
        }

        boolean isBack(int time) {
            return time < latest;
        }

        void see(int time) {
            if (first == NONE) {
                first = time;
            }
            latest = time;
        }

        void endLog() {
            spanOfEndedLogs = span();
            first = NONE;
            latest = NONE;
        }

        // In a log without a time both are NONE, which makes its span 0.
        long span() {
            return spanOfEndedLogs + (latest - first);
        }
    }

    /** Sums over the pauses, kept as they come: which log a pause was of is not known later. */
    private static final class Sums {
        private Event ahead;
        int pauses;
        long took;
        long allocated;
        long between;
        long promoted;

        void addPause(Event pause) {
            pauses++;
            took += pause.took;
            if (pause.oldBefore != NONE) {
                promoted += pause.oldAfter - pause.oldBefore;
            }
            if (ahead != null) {
                allocated += pause.before - ahead.after;
                between += pause.beginTime - ahead.endTime;
            }
            ahead = pause;
        }

        void endLog() {
            ahead = null;
        }
    }
}
