import java.util.Objects;

/** What every test uses: calls with the answers that are due, and the end of the program. */
final class Kit {
    static final String INDEX = "throws.IndexOutOfBoundsException";
    static final String ARGUMENT = "throws.IllegalArgumentException";
    static final String UNSUPPORTED = "throws.UnsupportedOperationException";
    static final String STATE = "throws.IllegalStateException";
    static final String NO_ELEMENT = "throws.NoSuchElementException";

    private int wrong = 0;

    interface Call {
        Object answer();
    }

    /** The answer of a call, or the name of the exception that it throws. */
    static Object answerOf(Call call) {
        try {
            return call.answer();
        } catch (RuntimeException e) {
            return "throws." + e.getClass().getSimpleName();
        }
    }

    void due(String what, Object want, Call call) {
        Object got = answerOf(call);
        if (!Objects.equals(got, want)) {
            wrong++;
            System.out.println(what + " answered " + got + ", due is " + want);
        }
    }

    static Discoverhall typed(Discoverhall hall, String text) {
        for (char sign : text.toCharArray()) {
            hall.type(sign);
        }
        return hall;
    }

    /** Adds a paper of custodian 0, day 0 and author 0, without readers, that is part of none. */
    static int add(Discoverhall hall, String text) {
        return typed(hall, text).paper(0, 0, 0, 0, -1);
    }

    static int addPart(Discoverhall hall, String text, int whole) {
        return typed(hall, text).paper(0, 0, 0, 0, whole);
    }

    static Discoverhall hallWith(String... texts) {
        Discoverhall hall = new Discoverhall();
        for (String text : texts) {
            add(hall, text);
        }
        return hall;
    }

    /** Calls that answer the same for a paper that is not there. */
    void dueIfMissing(String what, java.util.function.IntFunction<Object> call, int... missing) {
        for (int paper : missing) {
            due(what + " of the missing " + paper, INDEX, () -> call.apply(paper));
        }
    }

    void finish() {
        System.out.println(wrong == 0 ? "all answers are as due" : wrong + " answers are not as due");
        if (wrong != 0) {
            System.exit(1);
        }
    }
}
