import java.util.Objects;

/** What the project's tests have in common: comparing answers and ending with the exit code. */
final class Check {
    /** A call whose answer is wanted as a text: a number, or the name of what it throws. */
    interface Call {
        int run();
    }

    /** A call without an answer. */
    interface Act {
        void run();
    }

    private static final int SHOWN = 40;

    private final String name;
    private String sentence = "";
    private int checksAtSentence = -1;
    private int checks = 0;
    private int wrong = 0;

    Check(String name) {
        this.name = name;
    }

    static String answer(Call call) {
        try {
            return Integer.toString(call.run());
        } catch (RuntimeException e) {
            return "throws." + e.getClass().getSimpleName();
        }
    }

    static String outcome(Act act) {
        return answer(() -> {
            act.run();
            return 0;
        }).replaceFirst("^0$", "done");
    }

    /** Says of which words of the document the checks that follow are; words without a check are wrong. */
    void sentence(String words) {
        endSentence();
        sentence = "\"" + words + "\": ";
        checksAtSentence = checks;
    }

    private void endSentence() {
        if (checks == checksAtSentence) {
            wrong++;
            System.out.println(sentence + "nothing is checked");
        }
    }

    void same(String what, Object got, Object due) {
        checks++;
        if (!Objects.equals(got, due)) {
            wrong++;
            if (wrong <= SHOWN) {
                System.out.println(sentence + what + " answered " + got + ", due is " + due);
            }
        }
    }

    void is(String what, int due, Call call) {
        same(what, answer(call), Integer.toString(due));
    }

    void done(String what, Act act) {
        same(what, outcome(act), "done");
    }

    void fails(String what, Class<? extends RuntimeException> due, Act act) {
        same(what, outcome(act), "throws." + due.getSimpleName());
    }

    void end() {
        endSentence();
        System.out.println(name + ": " + checks + " checks, " + wrong + " wrong");
        if (wrong != 0 || checks == 0) {
            System.exit(1);
        }
    }
}
