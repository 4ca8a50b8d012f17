/** What a call answers, as a text, beside what is due. */
final class Due {
    interface Call {
        Object answer();
    }

    private int asked = 0;
    private int wrong = 0;
    private String part = "";

    void part(String name) {
        part = name;
    }

    /** The answer as the issues write it: a number, a boolean, or throws. and the exception's name. */
    static String answerOf(Call call) {
        try {
            return String.valueOf(call.answer());
        } catch (RuntimeException e) {
            return (isOfTheMachine(e) ? "the machine " : "") + "throws." + e.getClass().getSimpleName();
        }
    }

    /** The class throws by itself alone; the machine names the index in what it throws, the class does not. */
    private static boolean isOfTheMachine(RuntimeException e) {
        return e instanceof ArrayIndexOutOfBoundsException && String.valueOf(e.getMessage()).startsWith("Index ");
    }

    void is(Object want, Call call) {
        same(String.valueOf(want), answerOf(call), "");
    }

    void illegalArgument(Call call) {
        is("throws.IllegalArgumentException", call);
    }

    void illegalState(Call call) {
        is("throws.IllegalStateException", call);
    }

    void noSuchElement(Call call) {
        is("throws.NoSuchElementException", call);
    }

    void same(String want, String got, String what) {
        asked++;
        if (!want.equals(got)) {
            wrong++;
            StackTraceElement place = placeOfTest();
            System.out.println(part + ", line " + place.getLineNumber() + ": " + what
                + " answered " + got + ", due is " + want);
        }
    }

    boolean isWrong() {
        return wrong != 0;
    }

    private static StackTraceElement placeOfTest() {
        StackTraceElement[] places = Thread.currentThread().getStackTrace();
        for (int k = 1; k < places.length; k++) {
            if (places[k].getClassName().endsWith("Test")) {
                return places[k];
            }
        }
        return places[0];
    }

    void end() {
        System.out.println(asked + " answers looked at, " + wrong + " not as due");
        if (wrong != 0 || asked == 0) {
            System.exit(1);
        }
    }
}
