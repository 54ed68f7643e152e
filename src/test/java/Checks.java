/** What the tests share: texts as longs, and the comparing of answers and exceptions with what is due. */
final class Checks {
    interface Call {
        long answer();
    }

    interface Deed {
        void run();
    }

    static final Class<? extends RuntimeException> ARGUMENT = IllegalArgumentException.class;
    static final Class<? extends RuntimeException> INDEX = IndexOutOfBoundsException.class;
    static final Class<? extends RuntimeException> STATE = IllegalStateException.class;
    static final Class<? extends RuntimeException> ELEMENT = java.util.NoSuchElementException.class;

    private int checked = 0;
    private int wrong = 0;
    private String sentence = "";

    static long text(String characters) {
        long text = 0;
        for (int i = characters.length() - 1; i >= 0; i--) {
            text = text << 8 | characters.charAt(i) & 255;
        }
        return text;
    }

    /** The document's sentence that the next answers are due by: a wrong one is told with it. */
    void sentence(String words) {
        sentence = words + ": ";
    }

    void due(String what, long want, Call call) {
        compare(what, String.valueOf(want), told(call));
    }

    void dueText(String what, String want, Call call) {
        due(what, text(want), call);
    }

    void dueThrow(String what, Class<? extends RuntimeException> want, Call call) {
        compare(what, "throws." + want.getSimpleName(), told(call));
    }

    /** Where only this matters: whether the arguments are taken, or refused by an IllegalArgumentException. */
    void dueTaken(String what, boolean want, Call call) {
        String got = told(call);
        compare(what, want ? "taken" : "throws." + ARGUMENT.getSimpleName(), got.startsWith("throws.") ? got : "taken");
    }

    /** The class of an exception must be the very one that is due, not one under it. */
    static String told(Call call) {
        try {
            return String.valueOf(call.answer());
        } catch (RuntimeException e) {
            return "throws." + e.getClass().getSimpleName();
        }
    }

    void dueDone(String what, Deed deed) {
        due(what, 0, () -> {
            deed.run();
            return 0;
        });
    }

    void dueNotDone(String what, Class<? extends RuntimeException> want, Deed deed) {
        dueThrow(what, want, () -> {
            deed.run();
            return 0;
        });
    }

    void compare(String what, String want, String got) {
        checked++;
        if (!want.equals(got)) {
            wrong++;
            System.out.println(sentence + what + " answered " + got + ", due is " + want);
        }
    }

    /** Runs each test to its end, whatever an earlier one has come upon. */
    void all(Deed... tests) {
        for (Deed test : tests) {
            try {
                test.run();
            } catch (RuntimeException e) {
                compare("a call that is only there to prepare others", "its answer", e.toString());
            }
        }
        end();
    }

    void end() {
        System.out.println(checked + " answers, " + wrong + " of them wrong");
        if (wrong != 0) {
            System.exit(1);
        }
    }
}
