/** What the Terms say of the pad, NUMBERS, lines, sizes and times, the FAULT and a line's TEXT. */
public final class SyntaxTest {
    private static final String LONGEST = "[99999.999s]GC(999) Pause Mixed (Alloc) 9999M->9999K(9999M) 9999.999ms";

    private static final String[] LINES = {
        "[0.000s]GC(0) Mark", "[10.250s]GC(12) Mark 20.125ms", "[1.000s]GC(7) Mark Abort",
        "[1.000s]GC(7) Eden 0K->12M", "[1.000s]GC(7) Old 1234K->9M",
        "[1.000s]GC(7) Pause Young (Alloc)", "[1.000s]GC(7) Pause Mixed (Meta)", "[1.000s]GC(7) Pause Full (User)",
        "[1.000s]GC(7) Pause Young (Meta) 12M->0K(64M) 3.210ms", LONGEST,
    };

    // Each has a # where a number stands, and ahead of it how many digits that number may have.
    private static final String[] PLACES_OF_NUMBERS = {
        "5[#.000s]GC(0) Mark", "3[0.000s]GC(#) Mark", "4[0.000s]GC(0) Mark #.000ms",
        "4[0.000s]GC(0) Eden #K->0K", "4[0.000s]GC(0) Eden 0K->#M", "4[0.000s]GC(0) Old #M->0K", "4[0.000s]GC(0) Old 0K->#K",
        "4[0.000s]GC(0) Pause Full (User) #K->0K(0K) 0.000ms", "4[0.000s]GC(0) Pause Full (User) 0K->#K(0K) 0.000ms",
        "4[0.000s]GC(0) Pause Full (User) 0K->0K(#M) 0.000ms", "4[0.000s]GC(0) Pause Full (User) 0K->0K(0K) #.000ms",
    };

    private static final String[] PLACES_OF_THOUSANDTHS = {
        "[0#s]GC(0) Mark", "[0.000s]GC(0) Mark 0#ms", "[0.000s]GC(0) Pause Full (User) 0K->0K(0K) 0#ms",
    };

    private static final String[] PLACES_OF_UNITS = {
        "[0.000s]GC(0) Eden 1#->0K", "[0.000s]GC(0) Old 0K->1#", "[0.000s]GC(0) Pause Full (User) 1#->0K(0K) 0.000ms",
        "[0.000s]GC(0) Pause Full (User) 0K->1#(0K) 0.000ms", "[0.000s]GC(0) Pause Full (User) 0K->0K(1#) 0.000ms",
    };

    public static void main(String[] args) {
        noZeroAheadAndNotTooManyDigits();
        justThreeThousandths();
        units();
        somethingMissing();
        anyCharacterAnywhere();
        oneCharacterLess();
        faultInAFullPad();
        faultOfAnEmptyPad();
        faultOnlyOfSyntax();
        sizesWithAndWithoutText();
        sizesReadAsTheyAreMeant();
        Check.end();
    }

    /** The text is a line where fault is below 0; else it is none, with this fault. */
    private static void faultIs(String text, int fault) {
        PauseLog log = new PauseLog();
        Check.type(log, text);
        int answer = log.line();
        Check.same("'" + text + "' is SYNTAX", answer == -PauseLog.SYNTAX, fault >= 0);
        if (fault >= 0) {
            Check.call("number of '" + text + "'", PauseLog.SYNTAX, () -> log.diagnostic(0, 0));
            Check.call("fault of '" + text + "'", fault, () -> log.diagnostic(0, 2));
        }
        Check.same("pad behind '" + text + "'", log.count(6), 0);
    }

    // "NUMBERS have no 0 ahead, but 0 itself."; "a number of 1 to 5 digits", "1 to 3", "1 to 4"
    private static void noZeroAheadAndNotTooManyDigits() {
        for (String each : PLACES_OF_NUMBERS) {
            int most = each.charAt(0) - '0';
            String place = each.substring(1);
            int at = place.indexOf('#');
            String[] good = {"0", "1", "9", "10", "1" + "0".repeat(most - 1), "9".repeat(most)};
            for (String number : good) {
                faultIs(place.replace("#", number), -1);
            }
            faultIs(place.replace("#", ""), at);
            faultIs(place.replace("#", "00"), at + 1);
            faultIs(place.replace("#", "01"), at + 1);
            faultIs(place.replace("#", "0".repeat(most)), at + 1);
            faultIs(place.replace("#", "1" + "0".repeat(most)), at + most);
            faultIs(place.replace("#", "9".repeat(most + 1)), at + most);
            faultIs(place.replace("#", "-1"), at);
            faultIs(place.replace("#", "+1"), at);
            faultIs(place.replace("#", " 1"), at);
            faultIs(place.replace("#", "1 "), at + 1);
            // The characters just outside of the digits.
            faultIs(place.replace("#", "1/"), at + 1);
            faultIs(place.replace("#", "1:"), at + 1);
        }
    }

    // ". , three digits"
    private static void justThreeThousandths() {
        for (String place : PLACES_OF_THOUSANDTHS) {
            int at = place.indexOf('#');
            faultIs(place.replace("#", ".000"), -1);
            faultIs(place.replace("#", ".009"), -1);
            faultIs(place.replace("#", ".999"), -1);
            faultIs(place.replace("#", ""), at);
            faultIs(place.replace("#", "."), at + 1);
            faultIs(place.replace("#", ".0"), at + 2);
            faultIs(place.replace("#", ".00"), at + 3);
            faultIs(place.replace("#", ".0000"), at + 4);
            faultIs(place.replace("#", ",000"), at);
            faultIs(place.replace("#", ".00/"), at + 3);
            faultIs(place.replace("#", ".00:"), at + 3);
        }
    }

    // "a number of 1 to 4 digits and K, or M"
    private static void units() {
        for (String place : PLACES_OF_UNITS) {
            int at = place.indexOf('#');
            faultIs(place.replace("#", "K"), -1);
            faultIs(place.replace("#", "M"), -1);
            faultIs(place.replace("#", ""), at);
            for (String unit : new String[] {"G", "k", "m", "L", "J", " K", "."}) {
                faultIs(place.replace("#", unit), at);
            }
            faultIs(place.replace("#", "KK"), at + 1);
        }
    }

    // "or how many there are, if only something behind them is missing."
    private static void somethingMissing() {
        for (String line : LINES) {
            for (int k = 0; k <= line.length(); k++) {
                String beginning = line.substring(0, k);
                faultIs(beginning, Model.isLine(beginning) ? -1 : k);
            }
        }
    }

    // "how many characters stand before the first one that can't stand where it does"
    private static void anyCharacterAnywhere() {
        for (String line : LINES) {
            for (int k = 0; k <= line.length(); k++) {
                for (char c = 32; c <= 126; c++) {
                    String ahead = line.substring(0, k) + c;
                    asTheModelSays(ahead + line.substring(k));
                    asTheModelSays(ahead + line.substring(Math.min(k + 1, line.length())));
                }
            }
        }
    }

    private static void oneCharacterLess() {
        for (String line : LINES) {
            for (int k = 0; k < line.length(); k++) {
                asTheModelSays(line.substring(0, k) + line.substring(k + 1));
            }
        }
    }

    private static void asTheModelSays(String text) {
        faultIs(text, Model.isLine(text) ? -1 : Model.faultOf(text));
    }

    // "a PAD of at most 72 characters": the longest line has 70 of them.
    private static void faultInAFullPad() {
        faultIs(LONGEST, -1);
        faultIs(LONGEST + "s", 70);
        faultIs(LONGEST + "  ", 70);
        faultIs(" ".repeat(72), 0);
        faultIs("~".repeat(72), 0);
        faultIs("[" + "9".repeat(71), 6);
    }

    private static void faultOfAnEmptyPad() {
        faultIs("", 0);
        PauseLog log = new PauseLog();
        Check.same("line() of an empty pad", log.line(), -PauseLog.SYNTAX);
        Check.same("and again", log.line(), -PauseLog.SYNTAX);
        Check.counts("two empty lines", log, 2, 0, 2, 0, 2, 0, 0, 0, 0, PauseLog.NONE, PauseLog.NONE);
    }

    // "the fault (2; 0 but for SYNTAX)"
    private static void faultOnlyOfSyntax() {
        PauseLog log = new PauseLog();
        Check.line(log, "[1.000s]GC(", -PauseLog.SYNTAX);
        Lines.begin(log, 5, 1000, 0);
        Lines.begin(log, 6, 999, -PauseLog.BACK);
        Lines.begin(log, 5, 1000, -PauseLog.STALE);
        Lines.begin(log, 6, 1000, -PauseLog.BUSY);
        Lines.end(log, 6, 1000, -PauseLog.UNKNOWN);
        Lines.end(log, 5, 1000, new int[] {1, 0, 0, 0}, -PauseLog.WRONG);
        log.finish();
        for (int k = 0; k <= 6; k++) {
            int due = k == 6 ? 11 : 0;
            Check.same("fault of diagnostic " + k, log.diagnostic(k, 2), due);
        }
        Lines.events(log, 40);
        Lines.mark(log, 40, 0, 0);
        Lines.abort(log, 40, 0, -PauseLog.FULL);
        Check.same("fault of FULL", log.diagnostic(0, 2), 0);
    }

    // "A line's TEXT has a size as M if it is not 0 and 1024 divides it, else as K."
    private static void sizesWithAndWithoutText() {
        for (int size = -1030; size <= 10300; size++) {
            sizeIsWritten(size);
        }
        for (int size = 10238976 - 2050; size <= 10238976 + 2050; size++) {
            sizeIsWritten(size);
        }
        sizeIsWritten(Integer.MAX_VALUE);
        sizeIsWritten(Integer.MAX_VALUE - 1023);
        sizeIsWritten(Integer.MIN_VALUE);
    }

    private static void sizeIsWritten(int size) {
        boolean inM = size != 0 && size % 1024 == 0;
        String text = (inM ? size / 1024 : size) + (inM ? "M" : "K");
        boolean none = size < 0 || text.length() > 5;
        String[] places = {"2 Eden #->0K", "2 Eden 0K->#", "3 Old #->0K", "3 Old 0K->#", "1 Pause Young (Alloc) #->0K(0K) 0.000ms",
            "1 Pause Young (Alloc) 0K->#(0K) 0.000ms", "1 Pause Young (Alloc) 0K->0K(#) 0.000ms"};
        PauseLog log = new PauseLog();
        for (String place : places) {
            int shape = place.charAt(0) - '0';
            int a = place.contains("#->") ? size : 0;
            int b = place.contains("->#") ? size : 0;
            int c = place.contains("(#)") ? size : 0;
            String line = "[0.000s]GC(0)" + place.substring(1).replace("#", text);
            Check.call("write of " + line, none ? IllegalArgumentException.class : line.length(),
                () -> log.write(shape, 0, 0, a, b, c, 0));
        }
    }

    // "M (1024 K)", "Times are told in milliseconds, sizes in K, what took how long in microseconds."
    private static void sizesReadAsTheyAreMeant() {
        PauseLog log = new PauseLog();
        Check.line(log, "[99998.001s]GC(998) Pause Full (User)", 0);
        Check.line(log, "[99998.001s]GC(998) Eden 1M->1023K", 0);
        Check.line(log, "[99998.001s]GC(998) Old 0M->9999K", 0);
        Check.line(log, "[99999.999s]GC(998) Pause Full (User) 9998M->1024M(9999M) 1001.002ms", 1);
        int[] due = {2, 998, 99998001, 99999999, 2, 10237952, 1048576, 10238976, 1001002, 1024, 1023, 0, 9999, 4};
        for (int what = 0; what < due.length; what++) {
            Check.same("event(0, " + what + ")", log.event(0, what), due[what]);
        }
    }
}
