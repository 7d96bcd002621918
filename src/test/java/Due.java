/** Compares answers with those that are due and counts the wrong ones. */
final class Due {
    interface Call {
        Object run();
    }

    interface Step {
        void run();
    }

    static final String ERROR = "throws.ArithmeticException";
    static final String OFF = "throws.IllegalStateException";
    static final String NO_SUCH = "throws.NoSuchElementException";

    private final String title;
    private String part = "";
    private int checks = 0;
    private int wrong = 0;

    Due(String title) {
        this.title = title;
    }

    void part(String name) {
        part = name;
    }

    static String answer(Call call) {
        try {
            return String.valueOf(call.run());
        } catch (RuntimeException e) {
            return "throws." + e.getClass().getSimpleName();
        }
    }

    static String answer(Ask ask, Face x) {
        return answer(() -> ask.of(x));
    }

    static String answer(Step step) {
        return answer(() -> {
            step.run();
            return "void";
        });
    }

    void is(String what, Object got, Object due) {
        checks++;
        if (!String.valueOf(due).equals(String.valueOf(got))) {
            wrong++;
            if (wrong <= 50) {
                System.out.println(title + ", " + part + ": " + what + " answered " + got + ", due is " + due);
            }
        }
    }

    void call(String what, Object due, Call call) {
        is(what, answer(call), due);
    }

    void step(String what, Object due, Step step) {
        is(what, answer(step), due);
    }

    int wrong() {
        return wrong;
    }

    void end() {
        System.out.println(title + ": " + checks + " answers, " + wrong + " not as due");
        if (checks == 0 || wrong != 0) {
            System.exit(1);
        }
    }
}
