import java.util.function.IntSupplier;

/** For each promise of the document: ordinary calls, the edges that it names, and wrong arguments. */
public final class PromisesTest {
    private static final Class<IndexOutOfBoundsException> INDEX = IndexOutOfBoundsException.class;
    private static final Class<IllegalStateException> STATE = IllegalStateException.class;
    private static final Class<IllegalArgumentException> ARGUMENT = IllegalArgumentException.class;
    private static final Class<UnsupportedOperationException> UNSUPPORTED = UnsupportedOperationException.class;

    private static final Check check = new Check();

    private final String about;
    private final TwinPool pool = new TwinPool();

    private PromisesTest(String about) {
        this.about = about;
    }

    public static void main(String[] args) {
        promise1NewObject();
        promise2Disk();
        promise2DiskThatComesAgain();
        promise3EmptiestDisks();
        promise3RoomIsMade();
        promise3RoomBesideLeavingAndDegraded();
        promise3Refused();
        promise3FourHundred();
        promise4Chunks();
        promise5Free();
        promise6And7Words();
        promise6And7WordsOfTheLost();
        promise7WordsGoWithCopies();
        promise8Fail();
        promise9Leave();
        promise9LeaveRefused();
        promise10Stay();
        promise11StepOne();
        promise11StepOneSkips();
        promise11StepTwo();
        promise11StepThree();
        promise11StepFour();
        promise11StepOneGoesFirst();
        promise12Steps();
        promise13Place();
        promise14About();
        promise15Count();
        promise15Capacity();
        check.end();
    }

    // ---- the promises ----

    private static void promise1NewObject() {
        PromisesTest t = new PromisesTest("1 a new object");
        t.counts(0, 0, 0, 0, 0, 0, 0);
        for (int d = 0; d <= 11; d++) {
            int disk = d;
            t.refuses(INDEX, "about(d, 0)", () -> t.pool.about(disk, 0));
        }
        t.refuses(INDEX, "free(0)", () -> t.pool.free(0));
        t.refuses(UNSUPPORTED, "chunk()", () -> t.pool.chunk());
        t.answers(0, "step()", () -> t.pool.step());
    }

    private static void promise2Disk() {
        PromisesTest t = new PromisesTest("2 disk");
        t.diskRefused(INDEX, -1, 5);
        t.diskRefused(INDEX, 12, 5);
        t.diskRefused(INDEX, Integer.MIN_VALUE, 0);
        t.diskRefused(INDEX, Integer.MAX_VALUE, 201);
        t.diskRefused(ARGUMENT, 0, 0);
        t.diskRefused(ARGUMENT, 0, 201);
        t.diskRefused(ARGUMENT, 11, -1);
        t.diskRefused(ARGUMENT, 11, Integer.MIN_VALUE);
        t.counts(0, 0, 0, 0, 0, 0, 0);
        t.disks(0, 1, 11, 200);
        t.diskRefused(STATE, 0, 5);
        t.diskRefused(STATE, 11, 0);
        t.diskRefused(STATE, 11, 201);
        t.disk(0, 1, 1, 0, TwinPool.NONE);
        t.disk(11, 200, 200, 0, TwinPool.NONE);
        t.counts(2, 0, 1, 0, 0, 0, 0);
    }

    private static void promise2DiskThatComesAgain() {
        PromisesTest t = new PromisesTest("2 a disk that comes again");
        t.disks(0, 2, 1, 2).chunks(2).disks(2, 2);
        t.answers(2, "leave(0)", () -> t.pool.leave(0));
        t.diskRefused(STATE, 0, 9);
        t.answers(2, "fail(0)", () -> t.pool.fail(0));
        t.disks(0, 9);
        t.disk(0, 9, 9, 0, TwinPool.NONE);
    }

    private static void promise3EmptiestDisks() {
        PromisesTest t = new PromisesTest("3 the emptiest disks");
        t.disks(0, 2, 1, 3, 2, 3);
        t.newChunk(0, 1, 2);
        t.newChunk(1, 0, 1);
        t.newChunk(2, 0, 2);
        t.newChunk(3, 1, 2);
        t.refuses(UNSUPPORTED, "chunk()", () -> t.pool.chunk());
        t.counts(3, 4, 4, 0, 0, 0, 0);
        t.answers(2, "free(1)", () -> t.pool.free(1));
        t.newChunk(1, 0, 1);
    }

    private static void promise3RoomIsMade() {
        PromisesTest t = new PromisesTest("3 room is made");
        t.disks(0, 2, 1, 2).chunks(2).disks(2, 2);
        t.newChunk(2, 0, 2);
        t.chunk(0, 1, 2);
        t.chunk(1, 0, 1);
        t.counts(3, 3, 3, 0, 0, 0, 1);
        t.disks(3, 2);
        t.newChunk(3, 1, 3);
        t.chunk(0, 2, 3);
        t.counts(4, 4, 4, 0, 0, 0, 2);
    }

    private static void promise3RoomBesideLeavingAndDegraded() {
        PromisesTest leaving = new PromisesTest("3 room is not made by a copy on a disk that leaves");
        leaving.disks(0, 2, 1, 2).chunks(2).disks(2, 4);
        leaving.answers(2, "leave(0)", () -> leaving.pool.leave(0));
        leaving.newChunk(2, 1, 2);
        leaving.chunk(0, 0, 2);
        leaving.chunk(1, 0, 1);
        leaving.counts(3, 3, 2, 0, 0, 2, 1);

        PromisesTest degraded = new PromisesTest("3 room is made by a degraded chunk");
        degraded.disks(0, 1, 1, 1).chunks(1);
        degraded.answers(1, "fail(1)", () -> degraded.pool.fail(1));
        degraded.disks(2, 2);
        degraded.newChunk(1, 0, 2);
        degraded.chunk(0, 2, TwinPool.NONE);
        degraded.counts(2, 2, 1, 1, 0, 0, 1);
    }

    private static void promise3Refused() {
        PromisesTest one = new PromisesTest("3 refused with one free place");
        one.disks(0, 2, 1, 2).chunks(2).disks(2, 1);
        one.refuses(UNSUPPORTED, "chunk()", () -> one.pool.chunk());
        one.chunk(0, 0, 1);
        one.counts(3, 2, 2, 0, 0, 0, 0);

        PromisesTest none = new PromisesTest("3 refused as no chunk can make room");
        none.disks(0, 1, 1, 1, 2, 4).chunks(2);
        none.refuses(UNSUPPORTED, "chunk()", () -> none.pool.chunk());
        none.chunk(0, 0, 2);
        none.chunk(1, 1, 2);
        none.counts(3, 2, 2, 0, 0, 0, 0);

        PromisesTest alone = new PromisesTest("3 refused with a disk alone");
        alone.disks(4, 200);
        alone.refuses(UNSUPPORTED, "chunk()", () -> alone.pool.chunk());
    }

    private static void promise3FourHundred() {
        PromisesTest t = new PromisesTest("3 four hundred chunks");
        t.disks(0, 200, 1, 200, 2, 200, 3, 200).chunks(400).disks(4, 200);
        t.refuses(UNSUPPORTED, "chunk()", () -> t.pool.chunk());
        t.counts(5, 400, 500, 0, 0, 0, 0);
        t.answers(2, "free(17)", () -> t.pool.free(17));
        t.answers(2, "free(399)", () -> t.pool.free(399));
        t.answers(17, "chunk()", () -> t.pool.chunk());
        t.answers(399, "chunk()", () -> t.pool.chunk());
        t.refuses(UNSUPPORTED, "chunk()", () -> t.pool.chunk());
    }

    private static void promise4Chunks() {
        PromisesTest t = new PromisesTest("4 chunks");
        t.refuses(ARGUMENT, "chunks(-1)", () -> t.pool.chunks(-1));
        t.refuses(ARGUMENT, "chunks(least)", () -> t.pool.chunks(Integer.MIN_VALUE));
        t.answers(0, "chunks(5)", () -> t.pool.chunks(5));
        t.disks(0, 4, 1, 2, 2, 2);
        t.answers(0, "chunks(0)", () -> t.pool.chunks(0));
        t.answers(1, "chunks(1)", () -> t.pool.chunks(1));
        t.answers(3, "chunks(most)", () -> t.pool.chunks(Integer.MAX_VALUE));
        t.answers(0, "chunks(1)", () -> t.pool.chunks(1));
        t.disks(3, 6);
        t.answers(3, "chunks(4)", () -> t.pool.chunks(4));
        t.counts(4, 7, 7, 0, 0, 0, 3);

        PromisesTest full = new PromisesTest("4 chunks up to four hundred");
        full.disks(0, 200, 1, 200, 2, 200, 3, 200, 4, 200);
        full.answers(399, "chunks(399)", () -> full.pool.chunks(399));
        full.answers(1, "chunks(9)", () -> full.pool.chunks(9));
        full.answers(0, "chunks(9)", () -> full.pool.chunks(9));
    }

    private static void promise5Free() {
        PromisesTest t = new PromisesTest("5 free");
        t.disks(0, 2, 1, 2).chunks(2);
        t.refuses(INDEX, "free(-1)", () -> t.pool.free(-1));
        t.refuses(INDEX, "free(2)", () -> t.pool.free(2));
        t.refuses(INDEX, "free(400)", () -> t.pool.free(400));
        t.answers(2, "free(0)", () -> t.pool.free(0));
        t.refuses(INDEX, "free(0)", () -> t.pool.free(0));
        t.disk(0, 2, 1, 0, 1);
        t.answers(1, "fail(0)", () -> t.pool.fail(0));
        t.answers(1, "free(1)", () -> t.pool.free(1));
        t.disk(1, 2, 2, 0, TwinPool.NONE);
        t.disks(0, 2).chunks(1);
        t.answers(1, "fail(0)", () -> t.pool.fail(0));
        t.answers(1, "fail(1)", () -> t.pool.fail(1));
        t.answers(0, "free(0)", () -> t.pool.free(0));
        t.counts(0, 0, 0, 0, 0, 0, 0);

        PromisesTest last = new PromisesTest("5 free of the last chunk on a disk that leaves");
        last.disks(0, 1, 1, 1).chunks(1).disks(2, 1);
        last.answers(1, "leave(0)", () -> last.pool.leave(0));
        last.answers(2, "free(0)", () -> last.pool.free(0));
        last.refuses(INDEX, "about(0, 0)", () -> last.pool.about(0, 0));
        last.disk(1, 1, 1, 0, TwinPool.NONE);
        last.counts(2, 0, 1, 0, 0, 0, 0);
    }

    private static void promise6And7Words() {
        PromisesTest t = new PromisesTest("6, 7 words");
        t.disks(0, 3, 1, 3).chunks(2);
        for (int i = 0; i < 4; i++) {
            t.word(0, i, 0);
            t.writes(0, i, 10 + i);
            t.writes(1, i, -20 - i);
        }
        for (int i = 0; i < 4; i++) {
            t.word(0, i, 10 + i);
            t.word(1, i, -20 - i);
        }
        t.wordRefused(INDEX, 0, -1);
        t.wordRefused(INDEX, 0, 4);
        t.wordRefused(INDEX, 2, 0);
        t.wordRefused(INDEX, -1, 0);
        t.wordRefused(INDEX, 400, 0);
        t.wordRefused(INDEX, Integer.MAX_VALUE, Integer.MAX_VALUE);
        t.word(0, 3, 13);
        t.word(1, 0, -20);
        t.answers(2, "free(0)", () -> t.pool.free(0));
        t.wordRefused(INDEX, 0, 0);
        t.newChunk(0, 0, 1);
        for (int i = 0; i < 4; i++) {
            t.word(0, i, 0);
        }
    }

    private static void promise6And7WordsOfTheLost() {
        PromisesTest t = new PromisesTest("6, 7 words of a lost chunk");
        t.disks(0, 1, 1, 1).chunks(1);
        t.writes(0, 2, 5);
        t.answers(1, "fail(1)", () -> t.pool.fail(1));
        t.word(0, 2, 5);
        t.writes(0, 2, 6);
        t.word(0, 2, 6);
        t.answers(1, "fail(0)", () -> t.pool.fail(0));
        t.wordRefused(STATE, 0, 2);
        t.wordRefused(INDEX, 0, 4);
        t.wordRefused(INDEX, 0, -1);
    }

    private static void promise7WordsGoWithCopies() {
        PromisesTest t = new PromisesTest("7 words go with the copies");
        t.disks(0, 1, 1, 1).chunks(1);
        t.writes(0, 0, 77);
        t.answers(1, "fail(0)", () -> t.pool.fail(0));
        t.disks(2, 1, 3, 1);
        t.answers(1, "step()", () -> t.pool.step());
        t.answers(1, "leave(1)", () -> t.pool.leave(1));
        t.answers(3, "step()", () -> t.pool.step());
        t.chunk(0, 2, 3);
        t.word(0, 0, 77);
    }

    private static void promise8Fail() {
        PromisesTest t = new PromisesTest("8 fail");
        t.refuses(INDEX, "fail(0)", () -> t.pool.fail(0));
        t.refuses(INDEX, "fail(-1)", () -> t.pool.fail(-1));
        t.refuses(INDEX, "fail(12)", () -> t.pool.fail(12));
        t.disks(0, 2, 1, 2).chunks(1).disks(2, 2, 3, 1);
        t.newChunk(1, 0, 2);
        t.answers(0, "fail(3)", () -> t.pool.fail(3));
        t.answers(2, "fail(0)", () -> t.pool.fail(0));
        t.refuses(INDEX, "fail(0)", () -> t.pool.fail(0));
        t.chunk(0, 1, TwinPool.NONE);
        t.chunk(1, 2, TwinPool.NONE);
        t.counts(2, 2, 2, 2, 0, 0, 0);
        t.answers(1, "fail(1)", () -> t.pool.fail(1));
        t.chunk(0, TwinPool.NONE, TwinPool.NONE);
        t.counts(1, 2, 0, 1, 1, 0, 0);

        PromisesTest leaving = new PromisesTest("8 fail of a disk that leaves");
        leaving.disks(0, 2, 1, 2).chunks(2).disks(2, 2);
        leaving.answers(2, "leave(1)", () -> leaving.pool.leave(1));
        leaving.answers(2, "fail(1)", () -> leaving.pool.fail(1));
        leaving.chunk(0, 0, TwinPool.NONE);
        leaving.counts(2, 2, 2, 2, 0, 0, 0);
        leaving.disks(1, 3);
        leaving.disk(1, 3, 3, 0, TwinPool.NONE);
    }

    private static void promise9Leave() {
        PromisesTest t = new PromisesTest("9 leave");
        t.refuses(INDEX, "leave(0)", () -> t.pool.leave(0));
        t.refuses(INDEX, "leave(-1)", () -> t.pool.leave(-1));
        t.refuses(INDEX, "leave(12)", () -> t.pool.leave(12));
        t.disks(0, 3);
        t.answers(0, "leave(0)", () -> t.pool.leave(0));
        t.refuses(INDEX, "about(0, 0)", () -> t.pool.about(0, 0));
        t.disks(0, 2, 1, 2).chunks(2).disks(2, 2);
        t.answers(2, "leave(0)", () -> t.pool.leave(0));
        t.disk(0, 2, 0, 1, 0);
        t.counts(3, 2, 2, 0, 0, 2, 0);
        t.refuses(STATE, "leave(0)", () -> t.pool.leave(0));
        // Empty, yet the two chunks would have no capacity beside the disk that leaves already.
        t.refuses(UNSUPPORTED, "leave(2)", () -> t.pool.leave(2));
        t.disk(2, 2, 2, 0, TwinPool.NONE);
        t.counts(3, 2, 2, 0, 0, 2, 0);
    }

    private static void promise9LeaveRefused() {
        PromisesTest t = new PromisesTest("9 leave refused");
        t.disks(0, 1, 1, 1).chunks(1);
        t.refuses(UNSUPPORTED, "leave(0)", () -> t.pool.leave(0));
        t.disk(0, 1, 0, 0, 0);
        t.disks(2, 1, 3, 1);
        t.answers(0, "leave(3)", () -> t.pool.leave(3));
        t.answers(1, "fail(0)", () -> t.pool.fail(0));
        t.refuses(STATE, "leave(1) with a degraded chunk", () -> t.pool.leave(1));
        t.refuses(STATE, "leave(2) with a degraded chunk", () -> t.pool.leave(2));
        t.refuses(INDEX, "leave(3)", () -> t.pool.leave(3));
        t.answers(1, "fail(1)", () -> t.pool.fail(1));
        t.refuses(STATE, "leave(2) with a lost chunk", () -> t.pool.leave(2));
        t.disk(2, 1, 1, 0, TwinPool.NONE);
        t.answers(0, "free(0)", () -> t.pool.free(0));
        t.answers(0, "leave(2)", () -> t.pool.leave(2));
        t.counts(0, 0, 0, 0, 0, 0, 0);
    }

    private static void promise10Stay() {
        PromisesTest t = new PromisesTest("10 stay");
        t.refusesToDo(INDEX, "stay(0)", () -> t.pool.stay(0));
        t.refusesToDo(INDEX, "stay(-1)", () -> t.pool.stay(-1));
        t.refusesToDo(INDEX, "stay(12)", () -> t.pool.stay(12));
        t.disks(0, 2, 1, 2).chunks(2).disks(2, 2);
        t.refusesToDo(STATE, "stay(0)", () -> t.pool.stay(0));
        t.answers(2, "leave(0)", () -> t.pool.leave(0));
        t.answers(3, "step()", () -> t.pool.step());
        t.does("stay(0)", () -> t.pool.stay(0));
        t.refusesToDo(STATE, "stay(0)", () -> t.pool.stay(0));
        t.chunk(0, 1, 2);
        t.chunk(1, 0, 1);
        t.disk(0, 2, 1, 0, 1);
        t.counts(3, 2, 3, 0, 0, 0, 0);
        t.answers(0, "step()", () -> t.pool.step());
        t.newChunk(2, 0, 2);
    }

    private static void promise11StepOne() {
        PromisesTest t = new PromisesTest("11 step 1");
        t.disks(0, 2, 1, 2).chunks(2);
        t.answers(2, "fail(1)", () -> t.pool.fail(1));
        t.answers(0, "step()", () -> t.pool.step());
        t.disks(2, 1, 3, 2);
        t.answers(1, "step()", () -> t.pool.step());
        t.chunk(0, 0, 3);
        t.chunk(1, 0, TwinPool.NONE);
        t.answers(1, "step()", () -> t.pool.step());
        t.chunk(1, 0, 2);
        t.answers(0, "step()", () -> t.pool.step());
        t.counts(3, 2, 2, 0, 0, 0, 0);
    }

    private static void promise11StepOneSkips() {
        PromisesTest t = new PromisesTest("11 step 1 passes by a chunk for which it can't be done");
        t.disks(0, 3, 2, 2).chunks(1).disks(1, 1);
        t.newChunk(1, 0, 1);
        t.answers(2, "fail(0)", () -> t.pool.fail(0));
        t.answers(1, "step()", () -> t.pool.step());
        t.chunk(0, 2, TwinPool.NONE);
        t.chunk(1, 1, 2);
        t.answers(0, "step()", () -> t.pool.step());
    }

    private static void promise11StepTwo() {
        PromisesTest t = new PromisesTest("11 step 2");
        t.disks(0, 1, 3, 2).chunks(1);
        t.answers(1, "fail(0)", () -> t.pool.fail(0));
        t.answers(0, "step() with no chunk that could make room", () -> t.pool.step());
        t.disks(1, 1, 2, 1);
        t.newChunk(1, 1, 2);
        t.answers(2, "step()", () -> t.pool.step());
        t.chunk(0, 3, TwinPool.NONE);
        t.chunk(1, 2, 3);
        t.counts(3, 2, 2, 1, 0, 0, 1);
        t.answers(1, "step()", () -> t.pool.step());
        t.chunk(0, 1, 3);
        t.answers(0, "step()", () -> t.pool.step());
    }

    private static void promise11StepThree() {
        PromisesTest t = new PromisesTest("11 step 3");
        t.disks(0, 2, 1, 2).chunks(2).disks(2, 3, 3, 2);
        t.answers(2, "leave(1)", () -> t.pool.leave(1));
        t.answers(2, "leave(0)", () -> t.pool.leave(0));
        t.counts(4, 2, 2, 0, 0, 4, 0);
        t.answers(3, "step()", () -> t.pool.step());
        t.chunk(0, 1, 2);
        t.chunk(1, 0, 1);
        t.answers(3, "step()", () -> t.pool.step());
        t.chunk(1, 1, 2);
        t.refuses(INDEX, "about(0, 0)", () -> t.pool.about(0, 0));
        t.answers(3, "step()", () -> t.pool.step());
        t.chunk(0, 2, 3);
        t.chunk(1, 1, 2);
        t.answers(3, "step()", () -> t.pool.step());
        t.chunk(1, 2, 3);
        t.counts(2, 2, 2, 0, 0, 0, 0);
        t.answers(0, "step()", () -> t.pool.step());
    }

    private static void promise11StepFour() {
        PromisesTest t = new PromisesTest("11 step 4, behind a 3 for a greater disk");
        t.disks(1, 1, 3, 2).chunks(1).disks(4, 1);
        t.newChunk(1, 3, 4);
        t.disks(0, 1, 5, 3);
        t.newChunk(2, 0, 5);
        t.answers(1, "leave(0)", () -> t.pool.leave(0));
        t.answers(1, "leave(1)", () -> t.pool.leave(1));
        t.answers(3, "step()", () -> t.pool.step());
        t.chunk(0, 3, 5);
        t.counts(4, 3, 3, 0, 0, 1, 0);
        t.answers(4, "step()", () -> t.pool.step());
        t.chunk(1, 4, 5);
        t.chunk(2, 0, 5);
        t.counts(4, 3, 3, 0, 0, 1, 1);
        t.answers(3, "step()", () -> t.pool.step());
        t.chunk(2, 3, 5);
        t.answers(0, "step()", () -> t.pool.step());
        t.counts(3, 3, 3, 0, 0, 0, 1);
    }

    private static void promise11StepOneGoesFirst() {
        PromisesTest t = new PromisesTest("11 step 1 goes before 3");
        t.disks(0, 1, 1, 1).chunks(1).disks(2, 2, 3, 1);
        t.answers(1, "leave(0)", () -> t.pool.leave(0));
        t.answers(1, "fail(1)", () -> t.pool.fail(1));
        t.answers(1, "step()", () -> t.pool.step());
        t.chunk(0, 0, 2);
        t.answers(3, "step()", () -> t.pool.step());
        t.chunk(0, 2, 3);
        t.counts(2, 1, 1, 0, 0, 0, 0);
    }

    private static void promise12Steps() {
        PromisesTest t = new PromisesTest("12 steps");
        t.refuses(ARGUMENT, "steps(-1)", () -> t.pool.steps(-1));
        t.refuses(ARGUMENT, "steps(least)", () -> t.pool.steps(Integer.MIN_VALUE));
        t.answers(0, "steps(9)", () -> t.pool.steps(9));
        t.disks(0, 4, 1, 4).chunks(4).disks(2, 4);
        t.answers(4, "leave(0)", () -> t.pool.leave(0));
        t.answers(0, "steps(0)", () -> t.pool.steps(0));
        t.answers(1, "steps(1)", () -> t.pool.steps(1));
        t.counts(3, 4, 4, 0, 0, 3, 0);
        t.answers(3, "steps(most)", () -> t.pool.steps(Integer.MAX_VALUE));
        t.answers(0, "steps(most)", () -> t.pool.steps(Integer.MAX_VALUE));
        t.counts(2, 4, 4, 0, 0, 0, 0);

        PromisesTest large = new PromisesTest("12 steps over large disks");
        large.disks(0, 200, 1, 200, 2, 200, 3, 200).chunks(400).disks(4, 200, 5, 200);
        large.answers(200, "leave(0)", () -> large.pool.leave(0));
        large.answers(200, "leave(1)", () -> large.pool.leave(1));
        large.answers(400, "steps(most)", () -> large.pool.steps(Integer.MAX_VALUE));
        large.counts(4, 400, 400, 0, 0, 0, 0);
    }

    private static void promise13Place() {
        PromisesTest t = new PromisesTest("13 place");
        t.disks(7, 1, 3, 2).chunks(1);
        t.chunk(0, 3, 7);
        t.refuses(INDEX, "place(1, false)", () -> t.pool.place(1, false));
        t.refuses(INDEX, "place(-1, true)", () -> t.pool.place(-1, true));
        t.refuses(INDEX, "place(400, false)", () -> t.pool.place(400, false));
        t.answers(1, "fail(3)", () -> t.pool.fail(3));
        t.chunk(0, 7, TwinPool.NONE);
        t.disks(9, 1);
        t.answers(1, "step()", () -> t.pool.step());
        t.chunk(0, 7, 9);
        t.answers(1, "fail(9)", () -> t.pool.fail(9));
        t.answers(1, "fail(7)", () -> t.pool.fail(7));
        t.chunk(0, TwinPool.NONE, TwinPool.NONE);
    }

    private static void promise14About() {
        PromisesTest t = new PromisesTest("14 about");
        t.refuses(INDEX, "about(0, 9)", () -> t.pool.about(0, 9));
        t.refuses(INDEX, "about(-1, 0)", () -> t.pool.about(-1, 0));
        t.refuses(INDEX, "about(12, -1)", () -> t.pool.about(12, -1));
        t.disks(0, 3, 1, 2, 2, 2);
        t.disk(0, 3, 3, 0, TwinPool.NONE);
        t.refuses(ARGUMENT, "about(0, -1)", () -> t.pool.about(0, -1));
        t.refuses(ARGUMENT, "about(0, 4)", () -> t.pool.about(0, 4));
        t.newChunk(0, 0, 1);
        t.newChunk(1, 0, 2);
        t.disk(0, 3, 1, 0, 0);
        t.disk(2, 2, 1, 0, 1);
        t.answers(1, "leave(1)", () -> t.pool.leave(1));
        t.disk(1, 2, 1, 1, 0);
    }

    private static void promise15Count() {
        PromisesTest t = new PromisesTest("15 count");
        t.refuses(ARGUMENT, "count(-1)", () -> t.pool.count(-1));
        t.refuses(ARGUMENT, "count(7)", () -> t.pool.count(7));
        t.refuses(ARGUMENT, "count(most)", () -> t.pool.count(Integer.MAX_VALUE));
        t.disks(0, 2, 1, 2).chunks(2).disks(2, 4);
        t.answers(2, "leave(1)", () -> t.pool.leave(1));
        t.newChunk(2, 0, 2);
        t.counts(3, 3, 2, 0, 0, 2, 1);
        t.answers(2, "fail(1)", () -> t.pool.fail(1));
        t.counts(2, 3, 2, 2, 0, 0, 1);
        t.answers(2, "fail(0)", () -> t.pool.fail(0));
        t.counts(1, 3, 0, 2, 1, 0, 1);
    }

    private static void promise15Capacity() {
        PromisesTest t = new PromisesTest("15 the capacity");
        t.disks(0, 5);
        t.answers(0, "count(2) of 5", () -> t.pool.count(2));
        t.disks(1, 1);
        t.answers(1, "count(2) of 5, 1", () -> t.pool.count(2));
        t.disks(2, 3);
        t.answers(4, "count(2) of 5, 1, 3", () -> t.pool.count(2));
        t.disks(3, 4);
        t.answers(6, "count(2) of 5, 1, 3, 4", () -> t.pool.count(2));
        t.chunks(1);
        t.chunk(0, 0, 3);
        t.answers(1, "leave(0)", () -> t.pool.leave(0));
        t.answers(4, "count(2) of 1, 3, 4", () -> t.pool.count(2));
        t.answers(1, "leave(3)", () -> t.pool.leave(3));
        t.answers(1, "count(2) of 1, 3", () -> t.pool.count(2));
    }

    // ---- what the tests are written in ----

    private PromisesTest disks(int... numbersAndPlaces) {
        for (int i = 0; i < numbersAndPlaces.length; i += 2) {
            int d = numbersAndPlaces[i];
            int places = numbersAndPlaces[i + 1];
            does("disk(" + d + ", " + places + ")", () -> pool.disk(d, places));
        }
        return this;
    }

    private PromisesTest chunks(int n) {
        answers(n, "chunks(" + n + ")", () -> pool.chunks(n));
        return this;
    }

    private void newChunk(int number, int first, int second) {
        answers(number, "chunk()", () -> pool.chunk());
        chunk(number, first, second);
    }

    private void chunk(int number, int first, int second) {
        answers(first, "place(" + number + ", false)", () -> pool.place(number, false));
        answers(second, "place(" + number + ", true)", () -> pool.place(number, true));
    }

    private void disk(int number, int... abouts) {
        for (int what = 0; what < abouts.length; what++) {
            int asked = what;
            answers(abouts[what], "about(" + number + ", " + what + ")", () -> pool.about(number, asked));
        }
    }

    private void counts(int... counts) {
        for (int what = 0; what < counts.length; what++) {
            int asked = what;
            answers(counts[what], "count(" + what + ")", () -> pool.count(asked));
        }
    }

    private void diskRefused(Class<? extends RuntimeException> want, int d, int places) {
        refusesToDo(want, "disk(" + d + ", " + places + ")", () -> pool.disk(d, places));
    }

    private void writes(int c, int i, int word) {
        does("write(" + c + ", " + i + ", " + word + ")", () -> pool.write(c, i, word));
    }

    private void word(int c, int i, int want) {
        answers(want, "read(" + c + ", " + i + ")", () -> pool.read(c, i));
    }

    private void wordRefused(Class<? extends RuntimeException> want, int c, int i) {
        refuses(want, "read(" + c + ", " + i + ")", () -> pool.read(c, i));
        refusesToDo(want, "write(" + c + ", " + i + ", 99)", () -> pool.write(c, i, 99));
    }

    private void answers(int want, String call, IntSupplier made) {
        check.answers(want, about + ": " + call, made);
    }

    private void does(String call, Runnable made) {
        check.does(about + ": " + call, made);
    }

    private void refuses(Class<? extends RuntimeException> want, String call, IntSupplier made) {
        check.refuses(want, about + ": " + call, made);
    }

    private void refusesToDo(Class<? extends RuntimeException> want, String call, Runnable made) {
        check.refusesToDo(want, about + ": " + call, made);
    }
}
