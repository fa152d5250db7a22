/** Counts the answers that are not due, and feeds texts. */
final class Check {
    interface Call {
        long run();
    }

    private static int asked = 0;
    private static int wrong = 0;

    static void is(String what, long got, long due) {
        asked++;
        if (got != due) {
            wrong++;
            System.out.println(what + " answered " + got + ", due is " + due);
        }
    }

    static void is(String what, boolean got, boolean due) {
        is(what, got ? 1 : 0, due ? 1 : 0);
    }

    static void noPlace(String what, Call call) {
        is(what + " throws IndexOutOfBoundsException", thrown(call) == IndexOutOfBoundsException.class, true);
    }

    static void noValue(String what, Call call) {
        is(what + " throws IllegalArgumentException", thrown(call) == IllegalArgumentException.class, true);
    }

    static void noState(String what, Call call) {
        is(what + " throws IllegalStateException", thrown(call) == IllegalStateException.class, true);
    }

    private static Class<?> thrown(Call call) {
        try {
            call.run();
            return null;
        } catch (RuntimeException e) {
            return e.getClass();
        }
    }

    /** Puts a text on the tape, filled up with zero bytes. */
    static void feed(StrangerHall hall, String text) {
        for (int i = 0; i < text.length(); i += 20) {
            hall.feed(four(text, i), four(text, i + 4), four(text, i + 8), four(text, i + 12), four(text, i + 16));
        }
    }

    private static int four(String text, int at) {
        int number = 0;
        for (int i = at; i < at + 4; i++) {
            number = number << 8 | (i < text.length() ? text.charAt(i) : 0);
        }
        return number;
    }

    static int task(StrangerHall hall, int purse, String text) {
        feed(hall, text);
        return hall.task(purse, text.length());
    }

    static void end() {
        System.out.println(asked + " answers, " + wrong + " wrong");
        if (wrong != 0 || asked == 0) {
            System.exit(1);
        }
    }

    private Check() {
    }
}
