import java.util.Objects;

/** What the tests share: comparing answers, and putting lines into a PauseLog. */
final class Check {
    interface Call {
        Object answer();
    }

    private static int compared = 0;
    private static int wrong = 0;

    private Check() { }

    static void same(String what, Object got, Object due) {
        compared++;
        if (!Objects.equals(got, due)) {
            wrong++;
            System.out.println(what + " answered " + got + ", due is " + due);
        }
    }

    /** The answer, or the class of what was thrown: exactly that class is compared. */
    static Object answerOf(Call call) {
        try {
            return call.answer();
        } catch (RuntimeException e) {
            return e.getClass();
        }
    }

    static void call(String what, Object due, Call call) {
        same(what, answerOf(call), due);
    }

    static void noIndex(String what, Call call) {
        call(what, IndexOutOfBoundsException.class, call);
    }

    static void noArgument(String what, Call call) {
        call(what, IllegalArgumentException.class, call);
    }

    static void noState(String what, Call call) {
        call(what, IllegalStateException.class, call);
    }

    static void type(PauseLog log, String text) {
        for (int k = 0; k < text.length(); k++) {
            same("type of " + text, log.type(text.charAt(k)), true);
        }
    }

    static void line(PauseLog log, String text, int due) {
        type(log, text);
        same("line() of '" + text + "'", log.line(), due);
    }

    static void counts(String what, PauseLog log, int... due) {
        for (int n = 0; n < due.length; n++) {
            same(what + ": count(" + n + ")", log.count(n), due[n]);
        }
    }

    static String shown(PauseLog log, int i, int l) {
        StringBuilder text = new StringBuilder();
        int c = log.shown(i, l, 0);
        for (int k = 1; c != PauseLog.NONE; k++) {
            text.append((char) c);
            c = log.shown(i, l, k);
        }
        return text.toString();
    }

    static void end() {
        System.out.println(compared + " answers compared, " + wrong + " not as due");
        if (wrong != 0) {
            System.exit(1);
        }
    }
}
