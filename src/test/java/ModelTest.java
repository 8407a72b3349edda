import java.util.ArrayList;
import java.util.Map;
import java.util.TreeMap;

/** Long mixed runs of calls, the same each time, on TwinPool and on PlainPool: every answer must agree. */
public final class ModelTest {
    private static final int RUNS = 1000;
    private static final int CALLS = 512;
    private static final int CALLS_FOR_THE_STATE = 120;

    private static final Check check = new Check();
    private static final Map<String, Integer> met = new TreeMap<>();

    private long seed;
    private int callsLeft = CALLS;
    private final int most;
    private final TwinPool pool = new TwinPool();
    private final PlainPool plain = new PlainPool();

    private ModelTest(int run) {
        seed = run * 7919L + 17;
        // Few runs have large disks: small ones are full, and so in need of room, far more often.
        most = run % 50 == 0 ? 200 : run % 2 == 0 ? 12 : 4;
    }

    public static void main(String[] args) {
        for (int run = 0; run < RUNS; run++) {
            new ModelTest(run).play(run);
        }
        for (int which = 0; which <= 4; which++) {
            mustHaveMet("step " + which);
        }
        mustHaveMet("a disk has left");
        mustHaveMet("room made by a chunk of copies 1");
        mustHaveMet("room made by a chunk of copies 2");
        mustHaveMet("no room could be made");
        mustHaveMet("400 chunks");
        mustHaveMet("both copies on disks that leave");
        mustHaveMet("nothing to move off a disk that leaves");
        for (String call : new String[] {"disk", "chunk", "chunks", "free", "write", "read", "fail",
                "leave", "stay", "steps", "place", "about", "count"}) {
            mustHaveMet(call + " answered");
            mustHaveMet(call + " threw");
        }
        check.end();
    }

    private static void mustHaveMet(String what) {
        check.due("'" + what + "' was met in the runs", true, met.getOrDefault(what, 0) > 0);
    }

    /** The next number below a bound; the high bits alone, for the low ones of such a row repeat. */
    private int below(int bound) {
        seed = seed * 6364136223846793005L + 1442695040888963407L;
        return (int) ((seed >>> 33) % bound);
    }

    private void play(int run) {
        while (callsLeft > CALLS_FOR_THE_STATE) {
            oneCall(run);
        }
        wholeState(run);
        for (Map.Entry<String, Integer> e : plain.met.entrySet()) {
            met.merge(e.getKey(), e.getValue(), Integer::sum);
        }
    }

    private void same(int run, String call, String due, String got) {
        callsLeft--;
        check.due("run " + run + ": " + call, due, got);
        String name = call.substring(0, call.indexOf('('));
        met.merge(name + (due.startsWith("throws.") ? " threw" : " answered"), 1, Integer::sum);
    }

    private void oneCall(int run) {
        int c = someChunk();
        int d = below(14) - 1;
        int roll = below(100);
        if (roll < 14) {
            comeDisk(run, d, below(20) == 0 ? below(3) * 201 - 1 : 1 + below(most));
        } else if (roll < 24) {
            same(run, "chunk()", Check.answerOf(() -> plain.chunk()), Check.answerOf(() -> pool.chunk()));
        } else if (roll < 34) {
            int n = below(12) == 0 ? 1000 : below(most * 2) - 1;
            same(run, "chunks(" + n + ")", Check.answerOf(() -> plain.chunks(n)), Check.answerOf(() -> pool.chunks(n)));
        } else if (roll < 42) {
            same(run, "free(" + c + ")", Check.answerOf(() -> plain.free(c)), Check.answerOf(() -> pool.free(c)));
        } else if (roll < 50) {
            words(run, c, below(6) - 1, below(1000) - 500);
        } else if (roll < 53) {
            same(run, "fail(" + d + ")", Check.answerOf(() -> plain.fail(d)), Check.answerOf(() -> pool.fail(d)));
        } else if (roll < 66) {
            same(run, "leave(" + d + ")", Check.answerOf(() -> plain.leave(d)), Check.answerOf(() -> pool.leave(d)));
        } else if (roll < 68) {
            same(run, "stay(" + d + ")", Check.answerOf(() -> { plain.stay(d); }), Check.answerOf(() -> { pool.stay(d); }));
        } else if (roll < 84) {
            same(run, "step()", Check.answerOf(() -> plain.step()), Check.answerOf(() -> pool.step()));
        } else if (roll < 88) {
            int n = below(8) == 0 ? Integer.MAX_VALUE : below(most) - 1;
            same(run, "steps(" + n + ")", Check.answerOf(() -> plain.steps(n)), Check.answerOf(() -> pool.steps(n)));
        } else {
            looks(run, c, d);
        }
    }

    private int someChunk() {
        return below(10) == 0 ? below(420) - 10 : below(plain.chunks.size() + 2);
    }

    private void comeDisk(int run, int d, int places) {
        same(run, "disk(" + d + ", " + places + ")",
                Check.answerOf(() -> { plain.disk(d, places); }), Check.answerOf(() -> { pool.disk(d, places); }));
    }

    private void words(int run, int c, int i, int word) {
        same(run, "write(" + c + ", " + i + ", " + word + ")",
                Check.answerOf(() -> { plain.write(c, i, word); }), Check.answerOf(() -> { pool.write(c, i, word); }));
    }

    private void looks(int run, int c, int d) {
        lookWord(run, c, below(6) - 1);
        lookPlace(run, c, false);
        lookPlace(run, c, true);
        lookAbout(run, d, below(6) - 1);
        lookCount(run, below(9) - 1);
    }

    private void lookWord(int run, int c, int i) {
        same(run, "read(" + c + ", " + i + ")",
                Check.answerOf(() -> plain.read(c, i)), Check.answerOf(() -> pool.read(c, i)));
    }

    private void lookPlace(int run, int c, boolean second) {
        same(run, "place(" + c + ", " + second + ")",
                Check.answerOf(() -> plain.place(c, second)), Check.answerOf(() -> pool.place(c, second)));
    }

    private void lookAbout(int run, int d, int what) {
        same(run, "about(" + d + ", " + what + ")",
                Check.answerOf(() -> plain.about(d, what)), Check.answerOf(() -> pool.about(d, what)));
    }

    private void lookCount(int run, int what) {
        same(run, "count(" + what + ")",
                Check.answerOf(() -> plain.count(what)), Check.answerOf(() -> pool.count(what)));
    }

    private void wholeState(int run) {
        for (int what = 0; what <= 6; what++) {
            lookCount(run, what);
        }
        for (int d = 0; d <= 11; d++) {
            for (int what = 1; what <= 3; what++) {
                lookAbout(run, d, what);
            }
        }
        for (int c : new ArrayList<>(plain.chunks.keySet())) {
            if (callsLeft >= 2) {
                lookPlace(run, c, false);
                lookPlace(run, c, true);
            }
        }
    }
}
