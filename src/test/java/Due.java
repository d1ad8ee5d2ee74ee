/** Compares answers with what is due, and tells what a call threw. */
final class Due {
    private int looked;
    private int wrong;
    private String sentence = "";

    /** A call whose answer, or whose exception, is looked at. */
    interface Call {
        Object run();
    }

    /** The answer as text, or "throws." and the exception's plain name. */
    static String answerOf(Call call) {
        try {
            return String.valueOf(call.run());
        } catch (RuntimeException e) {
            return "throws." + e.getClass().getSimpleName();
        }
    }

    /** The document's words that the next answers belong to. */
    void sentence(String words) {
        sentence = "\"" + words + "\" ";
    }

    void is(String what, Object due, Call call) {
        String got = answerOf(call);
        looked++;
        if (!got.equals(String.valueOf(due))) {
            wrong++;
            System.out.println(sentence + what + " answered " + got + ", due is " + due);
        }
    }

    void argument(String what, Call call) {
        is(what, "throws.IllegalArgumentException", call);
    }

    void state(String what, Call call) {
        is(what, "throws.IllegalStateException", call);
    }

    void bounds(String what, Call call) {
        is(what, "throws.IndexOutOfBoundsException", call);
    }

    void end() {
        System.out.println(looked + " answers looked at, " + wrong + " not as due");
        if (wrong != 0) {
            System.exit(1);
        }
    }
}
