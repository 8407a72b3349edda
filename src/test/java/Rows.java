import java.util.ArrayList;
import java.util.List;

/**
 * Calls on a new TwinPool as text, parted by ';', each with the answer that is due:
 * "disk 0 2; disk 1 2; chunks 9 = 2; copies 0 = 0 1; leave 0 = !unsupported".
 * Three rows ask several questions at once: "copies c" both places, "of d" what 0 .. 3 about a
 * disk, "counts" all counts. After a call that is refused the whole state must be as before it.
 */
final class Rows {
    private static final int MOST_CALLS = 512;
    private static final int CHUNKS_AT_ONCE = 32;
    private static final int DISKS = 12;
    private static final int CHUNKS = 400;

    private final String sentence;
    private final List<String> rows = new ArrayList<>();
    private int calls = 0;

    private Rows(String sentence, String[] texts) {
        this.sentence = sentence;
        for (String text : texts) {
            for (String row : text.split(";")) {
                rows.add(row.trim());
            }
        }
    }

    static void hold(Check check, String sentence, String... texts) {
        new Rows(sentence, texts).checkAll(check);
    }

    private void checkAll(Check check) {
        TwinPool pool = new TwinPool();
        for (int k = 0; k < rows.size(); k++) {
            String due = dueOf(rows.get(k));
            check.due(sentence + ": row " + (k + 1) + ", " + callOf(rows.get(k)), due, answerOf(pool, rows.get(k)));
            if (due.startsWith("!")) {
                String left = stateAfter(k).equals(stateAfter(k + 1)) ? "as before" : "changed";
                check.due(sentence + ": row " + (k + 1) + ", " + callOf(rows.get(k)) + " and the state", "as before", left);
            }
        }
    }

    private static String callOf(String row) {
        int at = row.indexOf('=');
        return (at < 0 ? row : row.substring(0, at)).trim();
    }

    private static String dueOf(String row) {
        int at = row.indexOf('=');
        return at < 0 ? "done" : inNumbers(row.substring(at + 1).trim());
    }

    private static String inNumbers(String text) {
        return text.replace("MIN", "" + Integer.MIN_VALUE).replace("MAX", "" + Integer.MAX_VALUE).replace("NONE", "-1");
    }

    private String answerOf(TwinPool pool, String row) {
        String[] words = inNumbers(callOf(row)).split(" +");
        int[] with = new int[words.length - 1];
        for (int i = 0; i < with.length; i++) {
            with[i] = Integer.parseInt(words[i + 1]);
        }
        try {
            return answer(pool, words[0], with);
        } catch (RuntimeException e) {
            return nameOf(e);
        }
    }

    private static String nameOf(RuntimeException e) {
        switch (e.getClass().getName()) {
            case "java.lang.IndexOutOfBoundsException":
                return "!index";
            case "java.lang.IllegalStateException":
                return "!state";
            case "java.lang.IllegalArgumentException":
                return "!argument";
            case "java.lang.UnsupportedOperationException":
                return "!unsupported";
            default:
                return "!" + e;
        }
    }

    private String answer(TwinPool pool, String name, int[] with) {
        count(name);
        switch (name) {
            case "disk":
                pool.disk(with[0], with[1]);
                return "done";
            case "write":
                pool.write(with[0], with[1], with[2]);
                return "done";
            case "stay":
                pool.stay(with[0]);
                return "done";
            case "copies":
                return pool.place(with[0], false) + " " + pool.place(with[0], true);
            case "of":
                return pool.about(with[0], 0) + " " + pool.about(with[0], 1) + " " + pool.about(with[0], 2)
                        + " " + pool.about(with[0], 3);
            case "counts":
                return pool.count(0) + " " + pool.count(1) + " " + pool.count(2) + " " + pool.count(3)
                        + " " + pool.count(4) + " " + pool.count(5) + " " + pool.count(6);
            default:
                return String.valueOf(number(pool, name, with));
        }
    }

    private static int number(TwinPool pool, String name, int[] with) {
        switch (name) {
            case "chunk":
                return pool.chunk();
            case "chunks":
                return pool.chunks(with[0]);
            case "free":
                return pool.free(with[0]);
            case "read":
                return pool.read(with[0], with[1]);
            case "fail":
                return pool.fail(with[0]);
            case "leave":
                return pool.leave(with[0]);
            case "step":
                return pool.step();
            case "steps":
                return pool.steps(with[0]);
            case "place":
                return pool.place(with[0], with[1] == 1);
            case "about":
                return pool.about(with[0], with[1]);
            case "count":
                return pool.count(with[0]);
            default:
                throw new Error("no row is called " + name);
        }
    }

    /** Nothing is promised of an object after its 512th call, so no run may ask for more. */
    private void count(String name) {
        calls += name.equals("copies") ? 2 : name.equals("of") ? 4 : name.equals("counts") ? 7 : 1;
        if (calls > MOST_CALLS) {
            throw new Error(sentence + ": more calls than an object is made for");
        }
    }

    /** All that can be asked once the first of the rows were called; of many chunks, on several objects. */
    private String stateAfter(int called) {
        int before = calls;
        StringBuilder state = new StringBuilder();
        TwinPool pool = replayed(called);
        state.append(answerOf(pool, "counts"));
        for (int d = 0; d < DISKS; d++) {
            state.append(" | ").append(answerOf(pool, "of " + d));
        }
        for (int from = 0; from < CHUNKS; from += CHUNKS_AT_ONCE) {
            pool = replayed(called);
            for (int c = from; c < Math.min(CHUNKS, from + CHUNKS_AT_ONCE); c++) {
                state.append(" | ").append(answerOf(pool, "copies " + c));
                for (int i = 0; i < 4; i++) {
                    state.append(' ').append(answerOf(pool, "read " + c + " " + i));
                }
            }
        }
        calls = before;
        return state.toString();
    }

    private TwinPool replayed(int called) {
        calls = 0;
        TwinPool pool = new TwinPool();
        for (String row : rows.subList(0, called)) {
            answerOf(pool, row);
        }
        return pool;
    }
}
