import java.util.function.IntSupplier;

/** Tells and counts every answer that is not the one that is due. */
final class Check {
    private static final int MOST_TOLD = 20;

    private int wrong = 0;
    private int looked = 0;

    void due(String call, Object want, Object got) {
        looked++;
        if (!want.equals(got)) {
            wrong++;
            if (wrong <= MOST_TOLD) {
                System.out.println(call + " answered " + got + ", due is " + want);
            }
        }
    }

    void answers(int want, String call, IntSupplier made) {
        due(call, String.valueOf(want), answerOf(made));
    }

    void does(String call, Runnable made) {
        due(call, "nothing thrown", answerOf(made));
    }

    void refuses(Class<? extends RuntimeException> want, String call, IntSupplier made) {
        due(call, "throws." + want.getSimpleName(), answerOf(made));
    }

    void refusesToDo(Class<? extends RuntimeException> want, String call, Runnable made) {
        due(call, "throws." + want.getSimpleName(), answerOf(made));
    }

    static String answerOf(IntSupplier made) {
        try {
            return String.valueOf(made.getAsInt());
        } catch (RuntimeException e) {
            return "throws." + e.getClass().getSimpleName();
        }
    }

    static String answerOf(Runnable made) {
        try {
            made.run();
            return "nothing thrown";
        } catch (RuntimeException e) {
            return "throws." + e.getClass().getSimpleName();
        }
    }

    void end() {
        System.out.println(looked + " answers were looked at, " + wrong + " are not as due");
        if (wrong != 0) {
            System.exit(1);
        }
    }
}
