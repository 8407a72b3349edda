/**
 * For each sentence of the document that names a boundary case a test of its own, under the
 * sentence's own words, shortened where they are long; in brackets, which of its cases is meant.
 * Rows looks at the whole state behind every refused call.
 */
public final class BoundariesTest {
    private static final Check check = new Check();

    public static void main(String[] args) {
        numbersOfDisksAndPlaces();
        leastAndGreatestDisk();
        numbersOfChunksAndWords();
        greatestChunk();
        copies();
        capacity();
        emptiest();
        makingRoom();
        makingRoomPassesBy();
        newChunk();
        newChunkRefused();
        newChunkNumber();
        orderOfSteps();
        stepOne();
        stepTwo();
        stepThree();
        stepThreePassesBy();
        stepFour();
        diskThatHasLeft();
        namedFirst();
        noSuch();
        refusedCallsChangeNothing();
        promise1NewObject();
        promise2Disk();
        promise3Chunk();
        promise4Chunks();
        promise5Free();
        promise6Write();
        promise7Read();
        promise8Fail();
        promise9Leave();
        promise9LeaveRefused();
        promise10Stay();
        promise11Step();
        promise12Steps();
        promise13Place();
        promise14About();
        promise15Count();
        check.end();
    }

    private static void holds(String sentence, String... rows) {
        Rows.hold(check, sentence, rows);
    }

    // ---- the terms ----

    private static void numbersOfDisksAndPlaces() {
        holds("There are DISKS 0 .. 11",
                "disk -1 5 = !index; disk 12 5 = !index; disk MIN 5 = !index; disk MAX 5 = !index",
                "disk 0 5; disk 11 5; of 0 = 5 5 0 NONE; of 11 = 5 5 0 NONE; count 0 = 2");
        holds("There are DISKS 0 .. 11 (all at once)",
                "disk 0 1; disk 1 1; disk 2 1; disk 3 1; disk 4 1; disk 5 1; disk 6 1; disk 7 1",
                "disk 8 1; disk 9 1; disk 10 1; disk 11 1; count 0 = 12; count 2 = 6",
                "chunks 9 = 6; copies 0 = 0 1; copies 5 = 10 11; chunk = !unsupported; disk 12 1 = !index");
        holds("each there or not",
                "about 3 0 = !index; disk 3 5; about 3 0 = 5; fail 3 = 0; about 3 0 = !index");
        holds("with 1 .. 200 PLACES",
                "disk 0 0 = !argument; disk 0 -1 = !argument; disk 0 201 = !argument",
                "disk 0 MIN = !argument; disk 0 MAX = !argument; count 0 = 0",
                "disk 0 1; disk 1 200; of 0 = 1 1 0 NONE; of 1 = 200 200 0 NONE");
        holds("with 1 .. 200 PLACES (all of them used)",
                "disk 0 200; disk 1 200; chunks 199 = 199; of 0 = 200 1 0 0; chunk = 199; of 0 = 200 0 0 0",
                "of 1 = 200 0 0 0; chunk = !unsupported");
        holds("one that is there may be LEAVING, else it STAYS",
                "disk 0 1; disk 1 1; chunk = 0; disk 2 1; about 0 2 = 0; leave 0 = 1; about 0 2 = 1",
                "about 1 2 = 0; about 2 2 = 0; stay 0; about 0 2 = 0");
    }

    private static void leastAndGreatestDisk() {
        holds("There are DISKS 0 .. 11 (a second copy comes to either end)",
                "disk 9 1; disk 10 1; chunk = 0; fail 9 = 1; disk 11 1; step = 1; copies 0 = 10 11; fail 10 = 1; disk 0 1",
                "step = 1; copies 0 = 0 11");
        holds("There are DISKS 0 .. 11 (a copy moves off the last one)",
                "disk 10 1; disk 11 1; chunk = 0; disk 9 1; leave 11 = 1; count 5 = 1; step = 3; copies 0 = 9 10",
                "count 5 = 0; about 11 0 = !index");
        holds("There are DISKS 0 .. 11 (room is made for a copy on the last one)",
                "disk 11 1; disk 3 2; chunk = 0; disk 1 1; disk 2 1; chunk = 1; leave 11 = 1; step = 4; copies 0 = 3 11",
                "copies 1 = 2 3; step = 3; copies 0 = 1 3; step = 0");
        holds("There are DISKS 0 .. 11 (room is made for a copy on the first one)",
                "disk 0 1; disk 3 2; chunk = 0; disk 1 1; disk 2 1; chunk = 1; leave 0 = 1; step = 4; copies 0 = 0 3",
                "copies 1 = 2 3; step = 3; copies 0 = 1 3; step = 0");
        holds("There are DISKS 0 .. 11 (room is made beside the last one, and beside the first one)",
                "disk 4 1; disk 5 1; chunk = 0; disk 11 2; chunk = 1; copies 0 = 5 11; copies 1 = 4 11; disk 0 2; chunk = 2",
                "copies 0 = 0 11; copies 1 = 4 11; copies 2 = 0 5; count 6 = 2");
    }

    private static void numbersOfChunksAndWords() {
        holds("CHUNKS have numbers 0 .. 399",
                "disk 0 200; disk 1 200; disk 2 200; disk 3 200; chunks 400 = 400",
                "copies 0 = 0 1; copies 399 = 2 3; write 399 3 5; read 399 3 = 5",
                "place 400 0 = !index; read 400 0 = !index; write 400 0 5 = !index; free 400 = !index",
                "place -1 0 = !index; read -1 0 = !index; write -1 0 5 = !index; free -1 = !index",
                "free 399 = 2; place 399 0 = !index");
        holds("four words (ints)",
                "disk 0 2; disk 1 2; chunks 2 = 2; write 0 0 MIN; write 0 3 MAX; write 0 1 -1",
                "read 0 0 = MIN; read 0 1 = -1; read 0 2 = 0; read 0 3 = MAX; read 1 0 = 0; read 1 3 = 0",
                "read 0 -1 = !index; read 0 4 = !index; read 0 MIN = !index; read 0 MAX = !index",
                "write 0 -1 9 = !index; write 0 4 9 = !index; write 1 -1 9 = !index; write 1 4 9 = !index",
                "write 0 MIN 9 = !index; write 0 MAX 9 = !index; write 1 -4 9 = !index");
        // A quarter of 2 to the 32nd times four words comes to 0 again in an int.
        holds("four words (of a chunk whose first word's index would wrap around)",
                "disk 0 2; disk 1 2; chunks 2 = 2; write 0 0 7; read 1073741824 0 = !index",
                "write 1073741824 0 9 = !index; read -1073741824 0 = !index; write 1073741825 0 9 = !index",
                "read MIN 0 = !index; read MAX 4 = !index; write MIN 0 9 = !index; write MAX 4 9 = !index",
                "free MIN = !index; free MAX = !index; place MIN 0 = !index; place MAX 1 = !index");
    }

    private static void greatestChunk() {
        String alone = "; chunk = 399" + freeAllBelow(399) + "; fail 0 = 0; fail 1 = 0; fail 2 = 0; fail 3 = 0";
        String many = "disk 0 200; disk 1 200; disk 2 199; disk 3 199; chunks 999 = 399; ";
        holds("CHUNKS have numbers 0 .. 399 (the greatest makes room for a new one)",
                many + "disk 4 1; disk 5 1" + alone, "disk 6 2; chunk = 0; copies 0 = 4 6; copies 399 = 5 6; count 6 = 1");
        holds("CHUNKS have numbers 0 .. 399 (the greatest is degraded, and lost)",
                many + "disk 4 1; disk 5 1" + alone, "fail 4 = 1; counts = 1 1 0 1 0 0 0; disk 6 1; step = 1; copies 399 = 5 6",
                "fail 6 = 1; fail 5 = 1; counts = 0 1 0 0 1 0 0");
        holds("CHUNKS have numbers 0 .. 399 (room is made to mend the greatest)",
                many + "disk 4 1; disk 5 2" + alone, "fail 4 = 1; disk 0 1; disk 1 1; chunk = 0; copies 0 = 0 1; step = 2",
                "copies 0 = 1 5; copies 399 = 5 NONE; step = 1; copies 399 = 0 5; step = 0");
        holds("CHUNKS have numbers 0 .. 399 (the greatest moves off)",
                many + "disk 4 1; disk 5 1" + alone, "disk 6 1; leave 4 = 1; step = 3; copies 399 = 5 6; step = 0");
        holds("CHUNKS have numbers 0 .. 399 (room is made for the greatest to move off)",
                many + "disk 4 1; disk 5 2" + alone, "disk 0 1; disk 1 1; chunk = 0; leave 4 = 1; step = 4; copies 0 = 1 5",
                "copies 399 = 4 5; step = 3; copies 399 = 0 5; step = 0");
    }

    private static String freeAllBelow(int bound) {
        StringBuilder rows = new StringBuilder();
        for (int c = 0; c < bound; c++) {
            rows.append("; free ").append(c).append(" = 2");
        }
        return rows.toString();
    }

    private static void copies() {
        holds("a chunk has up to two COPIES, on different disks, each in one place",
                "disk 0 5; disk 1 3; chunk = 0; copies 0 = 0 1; of 0 = 5 4 0 0; of 1 = 3 2 0 0",
                "fail 1 = 1; copies 0 = 0 NONE; of 0 = 5 4 0 0; step = 0; copies 0 = 0 NONE");
        holds("with one it is DEGRADED, with none LOST",
                "disk 0 2; disk 1 2; chunks 2 = 2; counts = 2 2 2 0 0 0 0; fail 0 = 2; counts = 1 2 0 2 0 0 0",
                "fail 1 = 2; counts = 0 2 0 0 2 0 0; free 0 = 0; counts = 0 1 0 0 1 0 0");
    }

    private static void capacity() {
        holds("half their places in all, rounded down",
                "disk 0 1; disk 1 1; count 2 = 1; disk 2 1; count 2 = 1; disk 3 1; count 2 = 2; disk 4 1; count 2 = 2",
                "chunks 9 = 2");
        holds("all their places without those of the largest",
                "disk 0 3; disk 1 200; count 2 = 3; disk 2 4; count 2 = 7; chunks 99 = 7; chunk = !unsupported");
        holds("the lesser of half their places in all, rounded down, and all their places without those of the largest",
                "disk 0 4; disk 1 1; count 2 = 1; disk 2 2; count 2 = 3; disk 3 1; count 2 = 4; disk 4 1; count 2 = 4",
                "disk 5 1; count 2 = 5");
        holds("those of the largest (of two alike, of one alone)",
                "disk 0 5; disk 1 5; count 2 = 5; disk 2 1; count 2 = 5; disk 3 1; count 2 = 6");
        holds("THE CAPACITY is, of all disks that stay",
                "disk 0 2; disk 1 2; chunk = 0; disk 2 3; count 2 = 3; leave 0 = 1; count 2 = 2; stay 0; count 2 = 3",
                "fail 2 = 0; count 2 = 2");
        holds("0 with fewer than two",
                "count 2 = 0; disk 5 200; count 2 = 0; disk 6 1; count 2 = 1; fail 6 = 0; count 2 = 0; fail 5 = 0",
                "count 2 = 0");
        holds("0 with fewer than two (that stay)",
                "disk 0 4; disk 1 4; chunk = 0; disk 2 4; leave 0 = 1; count 2 = 4; fail 2 = 0; count 0 = 2; count 2 = 0",
                "fail 1 = 1; count 0 = 1; count 2 = 0");
    }

    private static void emptiest() {
        holds("THE EMPTIEST of some disks is the one with the most free places",
                "disk 0 2; disk 1 3; disk 2 4; chunk = 0; copies 0 = 1 2",
                "chunk = 1; copies 1 = 0 2; chunk = 2; copies 2 = 1 2; chunk = 3; copies 3 = 0 1");
        holds("the most free places (not the most places)",
                "disk 0 5; disk 1 5; chunks 4 = 4; disk 2 2; disk 3 2; chunk = 4; copies 4 = 2 3");
        holds("of several the least",
                "disk 3 2; disk 1 2; disk 2 2; disk 0 2; chunk = 0; copies 0 = 0 1; chunk = 1; copies 1 = 2 3",
                "chunk = 2; copies 2 = 0 1; chunk = 3; copies 3 = 2 3");
        holds("of several the least (for a second copy)",
                "disk 0 1; disk 1 1; chunk = 0; fail 0 = 1; disk 2 1; disk 5 2; disk 4 2; step = 1; copies 0 = 1 4");
        holds("of several the least (for a copy that moves off)",
                "disk 0 1; disk 1 1; chunk = 0; disk 2 1; disk 5 2; disk 4 2; leave 0 = 1; step = 3; copies 0 = 1 4");
    }

    private static void makingRoom() {
        holds("of all chunks that have no copy on D, the least one",
                "disk 0 2; disk 1 2; chunks 2 = 2; disk 2 4; free 0 = 2; chunk = 0; copies 0 = 0 2",
                "chunk = 2; copies 2 = 1 2; copies 1 = 0 1; of 2 = 4 2 0 0",
                "chunk = 3; copies 0 = 0 2; copies 1 = 1 2; copies 2 = 1 2; copies 3 = 0 2; count 6 = 1");
        holds("of two on such disks the one on the lesser disk",
                "disk 3 1; disk 1 1; chunk = 0; disk 0 2; chunk = 1; copies 0 = 0 3; copies 1 = 0 1; count 6 = 1");
        holds("of two on such disks the one on the lesser disk (D above both)",
                "disk 3 1; disk 1 1; chunk = 0; disk 9 2; chunk = 1; copies 0 = 3 9; copies 1 = 1 9; count 6 = 1");
        holds("One MOVE",
                "disk 0 3; disk 1 3; chunks 3 = 3; disk 2 6; chunk = 3; count 6 = 1; copies 0 = 1 2; copies 1 = 0 1",
                "copies 2 = 0 1; copies 3 = 0 2; chunk = 4; count 6 = 2; copies 1 = 1 2; copies 2 = 0 1; copies 4 = 0 2");
        holds("if there is such a chunk",
                "disk 0 1; disk 1 5; chunk = 0; chunk = !unsupported; count 6 = 0; fail 0 = 1; step = 0; count 6 = 0");
    }

    private static void makingRoomPassesBy() {
        holds("but one on another disk that stays (a chunk on leaving disks alone is passed by)",
                "disk 0 1; disk 1 1; chunk = 0; disk 2 1; disk 3 1; chunk = 1; disk 4 2; leave 0 = 1; leave 1 = 1",
                "chunk = 2; copies 0 = 0 1; copies 1 = 3 4; copies 2 = 2 4; count 6 = 1");
        holds("but one on another disk that stays (there is none)",
                "disk 0 1; disk 1 1; chunk = 0; disk 2 2; disk 3 2; leave 0 = 1; leave 1 = 1; fail 3 = 0",
                "chunk = !unsupported; copies 0 = 0 1; count 6 = 0");
        holds("of two on such disks (the lesser is leaving, so the greater moves)",
                "disk 0 1; disk 1 1; chunk = 0; disk 2 2; leave 0 = 1; chunk = 1; copies 0 = 0 2; copies 1 = 1 2");
        holds("of two on such disks (the greater is leaving)",
                "disk 0 1; disk 1 1; chunk = 0; disk 2 2; leave 1 = 1; chunk = 1; copies 0 = 1 2; copies 1 = 0 2");
        holds("its copy moves to D (the one of a degraded chunk)",
                "disk 0 1; disk 1 1; chunk = 0; write 0 2 8; fail 0 = 1; disk 2 2; chunk = 1; copies 0 = 2 NONE",
                "copies 1 = 1 2; read 0 2 = 8; counts = 2 2 1 1 0 0 1");
        holds("of all chunks that have one on another disk that stays (a lost one is passed by)",
                "disk 0 1; disk 1 1; chunk = 0; fail 0 = 1; fail 1 = 1; disk 0 1; disk 1 1; chunk = 1; disk 2 2",
                "chunk = 2; copies 0 = NONE NONE; copies 1 = 1 2; copies 2 = 0 2; count 6 = 1");
    }

    private static void newChunk() {
        holds("the emptiest of all disks that stay, and the emptiest of the others, if both have a free place",
                "disk 0 1; disk 1 1; chunk = 0; copies 0 = 0 1; of 0 = 1 0 0 0; of 1 = 1 0 0 0; chunk = !unsupported");
        holds("if both have a free place (no room is made then)",
                "disk 0 1; disk 1 1; chunk = 0; disk 2 1; disk 3 5; chunk = 1; copies 0 = 0 1; copies 1 = 2 3; count 6 = 0");
        holds("of all disks that stay (none that is leaving, be it the emptiest)",
                "disk 0 9; disk 1 3; chunk = 0; disk 2 3; leave 0 = 1; chunk = 1; copies 1 = 1 2; of 0 = 9 8 1 0");
        holds("If just one that stays has free places, and two at least, room is made beside it first",
                "disk 0 1; disk 1 1; chunk = 0; disk 2 2; chunk = 1; of 2 = 2 0 0 0; counts = 3 2 2 0 0 0 1");
        holds("If just one that stays has free places (a leaving disk's do not count)",
                "disk 0 9; disk 1 1; chunk = 0; disk 2 1; disk 3 2; leave 0 = 1; chunk = 1; copies 1 = 2 3",
                "disk 4 2; fail 3 = 1; disk 5 1; steps 9 = 2; copies 0 = 1 4; copies 1 = 2 4");
        holds("then its copies come to it and to the disk from which that copy moved",
                "disk 0 1; disk 1 1; chunk = 0; disk 2 1; disk 3 1; chunk = 1; disk 4 3; chunk = 2; copies 0 = 1 4",
                "copies 2 = 0 4; copies 1 = 2 3; of 0 = 1 0 0 2; of 4 = 3 1 0 0; chunk = !unsupported");
    }

    private static void newChunkRefused() {
        holds("and two at least (with one it is refused)",
                "disk 0 1; disk 1 1; chunk = 0; disk 2 1; chunk = !unsupported; copies 0 = 0 1; count 6 = 0");
        holds("Otherwise it is refused (no disk)",
                "chunk = !unsupported; count 1 = 0");
        holds("Otherwise it is refused (one disk)",
                "disk 7 200; chunk = !unsupported; of 7 = 200 200 0 NONE; count 1 = 0");
        holds("Otherwise it is refused (no free place)",
                "disk 0 2; disk 1 2; chunks 2 = 2; chunk = !unsupported; count 1 = 2");
        holds("Otherwise it is refused (no chunk that could make room)",
                "disk 0 1; disk 1 1; disk 2 4; chunks 2 = 2; of 2 = 4 2 0 0; chunk = !unsupported; count 1 = 2; count 6 = 0");
        holds("Otherwise it is refused (all free places are on a disk that is leaving)",
                "disk 0 4; disk 1 1; chunk = 0; disk 2 1; leave 0 = 1; step = 3; fail 1 = 1; fail 2 = 1; count 4 = 1",
                "chunk = !unsupported");
        holds("Otherwise it is refused (one place on a disk that stays, more on one that is leaving)",
                "disk 0 4; disk 1 1; chunk = 0; disk 2 1; leave 0 = 1; chunk = !unsupported; of 0 = 4 3 1 0");
    }

    private static void newChunkNumber() {
        holds("Its number is the least that no chunk has",
                "disk 0 5; disk 1 5; chunks 4 = 4; free 2 = 2; free 1 = 2; chunk = 1; chunk = 2; chunk = 4",
                "free 0 = 2; chunk = 0; chunk = !unsupported");
        holds("Its number is the least that no chunk has (a degraded and a lost one have theirs)",
                "disk 0 1; disk 1 1; chunk = 0; fail 0 = 1; disk 2 1; disk 3 1; chunk = 1; fail 1 = 1; fail 2 = 1",
                "counts = 1 2 0 1 1 0 0; disk 0 1; disk 1 1; chunk = 2; free 0 = 0; free 1 = 1; disk 2 1; chunk = 0");
    }

    private static void orderOfSteps() {
        holds("A STEP is the first of these that can be done (1, though room could be made)",
                "disk 1 1; disk 2 1; chunk = 0; disk 0 1; disk 3 3; chunk = 1; fail 0 = 1; disk 4 1",
                "step = 1; copies 1 = 3 4; count 6 = 0");
        holds("A STEP is the first of these that can be done (1, though a copy could move off)",
                "disk 0 1; disk 1 1; chunk = 0; disk 2 1; disk 3 1; chunk = 1; disk 4 1; disk 5 1; leave 0 = 1",
                "fail 3 = 1; step = 1; copies 0 = 0 1; copies 1 = 2 4; step = 3; copies 0 = 1 5; step = 0");
        holds("A STEP is the first of these that can be done (2, though a copy could move off)",
                "disk 0 1; disk 1 1; chunk = 0; disk 2 4; disk 3 1; chunk = 1; leave 0 = 1; fail 3 = 1",
                "step = 2; copies 0 = 0 2; copies 1 = 2 NONE; step = 1; copies 1 = 1 2; step = 0; count 6 = 1");
        holds("A STEP is the first of these that can be done (2, though 4 would move the same copy)",
                "disk 1 1; disk 2 1; chunk = 0; disk 0 1; disk 5 9; chunk = 1; disk 3 1; chunk = 2; leave 0 = 1",
                "fail 3 = 1; step = 2; copies 0 = 2 5; step = 1; copies 2 = 1 5; step = 0; copies 1 = 0 5");
        holds("A STEP is the first of these that can be done (3 as no room can be made for 2)",
                "disk 0 1; disk 1 1; chunk = 0; disk 2 4; disk 3 1; chunk = 1; disk 4 1; leave 0 = 1; leave 1 = 1",
                "fail 3 = 1; fail 4 = 0; step = 3; copies 0 = 1 2; copies 1 = 2 NONE; step = 0; count 6 = 0");
        holds("A STEP is the first of these that can be done (3 of a greater disk, though 4 of the least could be)",
                "disk 1 1; disk 3 2; chunk = 0; disk 4 1; chunk = 1; disk 0 1; disk 5 3; chunk = 2; leave 0 = 1",
                "leave 1 = 1; step = 3; copies 0 = 3 5; copies 1 = 3 4; copies 2 = 0 5; step = 4; copies 1 = 4 5",
                "step = 3; copies 2 = 3 5; step = 0; count 6 = 1");
    }

    private static void stepOne() {
        holds("The least chunk that is degraded",
                "disk 0 2; disk 1 2; chunks 2 = 2; fail 1 = 2; disk 2 2; step = 1; copies 0 = 0 2; copies 1 = 0 NONE",
                "step = 1; copies 1 = 0 2; step = 0");
        holds("and for which this can be done (a lesser one is passed by)",
                "disk 0 3; disk 2 2; chunk = 0; disk 1 1; chunk = 1; fail 0 = 2; copies 0 = 2 NONE; copies 1 = 1 NONE",
                "step = 1; copies 0 = 2 NONE; copies 1 = 1 2; step = 0");
        holds("a second copy comes to the emptiest disk that stays",
                "disk 2 1; disk 3 1; chunk = 0; disk 0 5; disk 1 1; chunk = 1; disk 4 1; leave 0 = 1; fail 3 = 1",
                "step = 1; copies 0 = 2 4; of 0 = 5 4 1 1; step = 0; count 5 = 1");
        holds("has a free place (in the last one)",
                "disk 0 1; disk 1 1; chunk = 0; disk 2 1; disk 3 1; chunk = 1; fail 0 = 1; step = 0; disk 0 1",
                "step = 1; copies 0 = 0 1; of 0 = 1 0 0 0; step = 0");
        holds("and not its other copy",
                "disk 0 9; disk 1 1; chunk = 0; fail 1 = 1; step = 0; disk 2 1; step = 1; copies 0 = 0 2");
        holds("The least chunk that is degraded (on a disk that is leaving)",
                "disk 0 5; disk 1 5; chunk = 0; write 0 1 6; disk 2 1; disk 3 1; leave 0 = 1; fail 1 = 1; step = 1",
                "copies 0 = 0 2; step = 3; copies 0 = 2 3; read 0 1 = 6; counts = 2 1 1 0 0 0 0");
        holds("The least chunk that is degraded (a lost one is not)",
                "disk 0 1; disk 1 1; chunk = 0; fail 0 = 1; fail 1 = 1; disk 0 2; disk 1 2; step = 0; copies 0 = NONE NONE");
    }

    private static void stepTwo() {
        holds("Of the least degraded chunk whose copy is on a disk D that stays and has a free place, room is made beside D",
                "disk 0 1; disk 3 2; chunk = 0; fail 0 = 1; disk 1 1; disk 2 1; chunk = 1; copies 1 = 1 2",
                "step = 2; copies 0 = 3 NONE; copies 1 = 2 3; counts = 3 2 2 1 0 0 1",
                "step = 1; copies 0 = 1 3; counts = 3 2 2 0 0 0 1; step = 0");
        holds("a disk D that stays (it is leaving)",
                "disk 2 1; disk 3 1; chunk = 0; disk 0 2; disk 1 1; chunk = 1; disk 4 1; leave 0 = 1; fail 4 = 0",
                "fail 1 = 1; copies 1 = 0 NONE; of 0 = 2 1 1 1; step = 0; copies 0 = 2 3; count 6 = 0");
        holds("and has a free place (it is full)",
                "disk 0 1; disk 1 1; chunk = 0; disk 2 1; disk 3 1; chunk = 1; fail 3 = 1; step = 0; copies 0 = 0 1",
                "of 2 = 1 0 0 1; count 6 = 0");
        holds("for which room can be made (by no chunk)",
                "disk 0 2; disk 3 4; chunks 2 = 2; fail 0 = 2; step = 0; counts = 1 2 0 2 0 0 0");
    }

    private static void stepThree() {
        holds("Of the least disk that is leaving and the least chunk with a copy on it",
                "disk 0 2; disk 1 2; chunks 2 = 2; disk 2 3; disk 3 2; leave 1 = 2; leave 0 = 2",
                "step = 3; copies 0 = 1 2; copies 1 = 0 1; step = 3; copies 0 = 1 2; copies 1 = 1 2; count 0 = 3",
                "step = 3; copies 0 = 2 3; copies 1 = 1 2; step = 3; copies 1 = 2 3; counts = 2 2 2 0 0 0 0; step = 0");
        holds("that copy moves to the emptiest disk that stays",
                "disk 0 1; disk 1 1; chunk = 0; disk 2 5; disk 3 1; chunk = 1; disk 4 1; disk 5 1; leave 0 = 1; leave 2 = 1",
                "step = 3; copies 0 = 1 4; of 2 = 5 4 1 1; step = 3; copies 1 = 3 5; counts = 4 2 2 0 0 0 0");
        holds("has a free place, and not its other copy",
                "disk 0 1; disk 1 9; chunk = 0; disk 2 1; disk 3 3; leave 0 = 1; step = 3; copies 0 = 1 3; step = 0");
        holds("that copy moves (in the last free place, and its words with it)",
                "disk 0 1; disk 1 1; chunk = 0; write 0 3 9; disk 2 1; leave 1 = 1; step = 3; copies 0 = 0 2; read 0 3 = 9",
                "of 2 = 1 0 0 0; step = 0; count 6 = 0");
    }

    private static void stepThreePassesBy() {
        holds("the least chunk with a copy on it for which this can be done (a lesser one is passed by)",
                "disk 0 9; disk 2 2; chunk = 0; disk 1 1; chunk = 1; copies 0 = 0 2; copies 1 = 0 1; disk 3 1",
                "leave 0 = 2; fail 3 = 0; step = 3; copies 0 = 0 2; copies 1 = 1 2; step = 0; count 5 = 1");
        holds("the least disk that is leaving for which this can be done (a lesser one is passed by)",
                "disk 3 2; disk 1 1; chunk = 0; disk 4 1; chunk = 1; disk 0 1; disk 5 3; chunk = 2; leave 0 = 1",
                "leave 1 = 1; step = 3; copies 2 = 0 5; copies 0 = 3 5; about 1 0 = !index; about 0 2 = 1");
    }

    private static void stepFour() {
        holds("Of the least such disk, and the least such chunk whose other copy is on a disk D that stays and has a "
                        + "free place, room is made beside D",
                "disk 1 1; disk 2 1; chunk = 0; disk 0 1; disk 3 3; chunk = 1; leave 0 = 1; step = 4; copies 0 = 2 3",
                "copies 1 = 0 3; counts = 4 2 2 0 0 1 1; step = 3; copies 1 = 1 3; counts = 3 2 2 0 0 0 1; step = 0");
        holds("whose other copy is on a disk D that stays (it is leaving too)",
                "disk 2 1; disk 3 1; chunk = 0; disk 0 1; disk 1 2; chunk = 1; disk 4 1; disk 5 1; leave 0 = 1; leave 1 = 1",
                "fail 4 = 0; fail 5 = 0; step = 0; copies 0 = 2 3; copies 1 = 0 1; counts = 4 2 1 0 0 2 0");
        holds("and has a free place (no disk has)",
                "disk 0 1; disk 1 1; chunk = 0; disk 2 1; disk 3 1; chunk = 1; disk 4 1; leave 0 = 1; fail 4 = 0",
                "step = 0; copies 0 = 0 1; copies 1 = 2 3; counts = 4 2 1 0 0 1 0");
        holds("for which room can be made (by no chunk)",
                "disk 0 1; disk 1 5; chunk = 0; disk 2 1; leave 0 = 1; fail 2 = 0; step = 0; copies 0 = 0 1; count 6 = 0");
        holds("whose other copy (a degraded chunk has none)",
                "disk 2 1; disk 3 1; chunk = 0; disk 0 1; disk 1 1; chunk = 1; disk 4 1; leave 0 = 1; fail 4 = 0",
                "fail 1 = 1; step = 0; copies 1 = 0 NONE; copies 0 = 2 3");
    }

    private static void diskThatHasLeft() {
        holds("A disk that is leaving and has no copies is there no more. (by a step)",
                "disk 0 1; disk 1 1; chunk = 0; disk 2 1; leave 0 = 1; count 0 = 3; step = 3; count 0 = 2",
                "about 0 0 = !index; stay 0 = !index; fail 0 = !index; leave 0 = !index",
                "disk 0 7; of 0 = 7 7 0 NONE; stay 0 = !state");
        holds("A disk that is leaving and has no copies is there no more. (with its last copy, not before)",
                "disk 0 2; disk 1 2; chunks 2 = 2; disk 2 2; leave 0 = 2; steps 1 = 1; of 0 = 2 1 1 1; count 5 = 1",
                "steps 1 = 1; about 0 0 = !index; counts = 2 2 2 0 0 0 0");
        holds("A disk that is leaving and has no copies is there no more. (by free)",
                "disk 0 2; disk 1 2; chunks 2 = 2; disk 2 2; leave 0 = 2; free 0 = 2; of 0 = 2 1 1 1; free 1 = 2",
                "about 0 0 = !index; of 1 = 2 2 0 NONE; counts = 2 0 2 0 0 0 0");
        holds("A disk that is leaving and has no copies is there no more. (two by one free)",
                "disk 0 1; disk 1 1; chunk = 0; disk 2 1; disk 3 1; leave 0 = 1; leave 1 = 1; count 5 = 2; free 0 = 2",
                "about 0 0 = !index; about 1 0 = !index; counts = 2 0 1 0 0 0 0");
        holds("A disk that is leaving and has no copies is there no more. (by free of a degraded chunk)",
                "disk 0 1; disk 1 1; chunk = 0; disk 2 1; leave 0 = 1; fail 1 = 1; free 0 = 1; about 0 0 = !index",
                "counts = 1 0 0 0 0 0 0");
        holds("A disk that is leaving and has no copies is there no more. (one that stays is)",
                "disk 0 1; disk 1 1; chunk = 0; disk 2 1; leave 0 = 1; stay 0; free 0 = 2; of 0 = 1 1 0 NONE; count 0 = 3");
    }

    private static void namedFirst() {
        holds("the one named first when several would do (disk)",
                "disk 12 0 = !index; disk -1 201 = !index; disk 3 9; disk 3 0 = !state; disk 3 201 = !state; of 3 = 9 9 0 NONE");
        holds("the one named first when several would do (write, read)",
                "disk 0 1; disk 1 1; chunk = 0; fail 0 = 1; fail 1 = 1; write 0 0 1 = !state; read 0 0 = !state",
                "write 0 4 1 = !index; read 0 4 = !index; write 0 -1 1 = !index; read 0 -1 = !index");
        holds("the one named first when several would do (leave)",
                "disk 0 1; disk 1 1; chunk = 0; leave 5 = !index; leave 0 = !unsupported; disk 2 1; leave 0 = 1",
                "fail 2 = 0; leave 0 = !state; leave 1 = !unsupported; fail 0 = 1; leave 1 = !state; leave 0 = !index");
        holds("the one named first when several would do (about)",
                "about 0 4 = !index; about -1 -1 = !index; about 12 9 = !index; disk 0 1; about 0 4 = !argument");
    }

    private static void noSuch() {
        holds("there is no such disk",
                "about -1 0 = !index; about 12 0 = !index; about MIN 0 = !index; about MAX 0 = !index",
                "fail -1 = !index; fail 12 = !index; fail MIN = !index; fail MAX = !index",
                "leave -1 = !index; leave 12 = !index; leave MIN = !index; leave MAX = !index",
                "stay -1 = !index; stay 12 = !index; stay MIN = !index; stay MAX = !index");
        holds("(or it is not there)",
                "disk 0 2; about 1 0 = !index; fail 1 = !index; leave 1 = !index; stay 1 = !index",
                "fail 0 = 0; about 0 0 = !index; fail 0 = !index; leave 0 = !index; stay 0 = !index");
        holds("there is no such chunk",
                "free 0 = !index; write 0 0 1 = !index; read 0 0 = !index; place 0 0 = !index; place 0 1 = !index",
                "disk 0 2; disk 1 2; chunk = 0; free 1 = !index; write 1 0 1 = !index; read 1 0 = !index; place 1 0 = !index",
                "place 1 1 = !index; free 0 = 2; free 0 = !index; write 0 0 1 = !index; read 0 0 = !index; place 0 0 = !index",
                "place 0 1 = !index");
    }

    private static void refusedCallsChangeNothing() {
        holds("A call that throws changes nothing.",
                "disk 0 1; disk 1 1; chunk = 0; write 0 1 5; disk 2 2; chunk = 1; write 1 3 6; disk 3 1; leave 0 = 1",
                "disk 12 1 = !index; disk 0 2 = !state; disk 5 0 = !argument; chunk = !unsupported; chunks -1 = !argument",
                "free 2 = !index; write 2 0 9 = !index; write 0 4 9 = !index; read 2 0 = !index; read 1 -1 = !index",
                "fail 5 = !index; leave 5 = !index; leave 0 = !state; leave 1 = !unsupported; leave 3 = !unsupported",
                "stay 5 = !index; stay 1 = !state; steps -1 = !argument; place 2 0 = !index; about 5 0 = !index",
                "about 0 4 = !argument; count 7 = !argument; counts = 4 2 2 0 0 1 1; copies 0 = 1 2; copies 1 = 0 2",
                "read 0 1 = 5; read 1 3 = 6; step = 3; copies 1 = 2 3; step = 0");
        holds("A call that throws changes nothing. (with chunks degraded and lost)",
                "disk 0 1; disk 1 1; chunk = 0; disk 2 1; disk 3 1; chunk = 1; write 1 0 4; fail 0 = 1; fail 1 = 1; fail 3 = 1",
                "disk 4 1; leave 2 = !state; leave 4 = !state; write 0 0 9 = !state; read 0 0 = !state; chunk = !unsupported",
                "counts = 2 2 1 1 1 0 0; step = 1; copies 1 = 2 4; read 1 0 = 4; copies 0 = NONE NONE");
    }

    // ---- the promises ----

    private static void promise1NewObject() {
        holds("1: No disks, no chunks.",
                "counts = 0 0 0 0 0 0 0; about 0 0 = !index; about 11 0 = !index; place 0 0 = !index; place 399 0 = !index",
                "chunk = !unsupported; chunks 9 = 0; step = 0; steps 9 = 0; counts = 0 0 0 0 0 0 0");
        TwinPool one = new TwinPool();
        one.disk(0, 5);
        one.disk(1, 5);
        one.chunk();
        check.due("1: No disks (beside another object that has two)", 0, new TwinPool().count(0));
        check.due("1: no chunks (beside another object that has one)", 0, new TwinPool().count(1));
    }

    private static void promise2Disk() {
        holds("2: A disk comes, empty. (in the place of one that failed)",
                "disk 0 2; disk 1 2; chunks 2 = 2; fail 0 = 2; disk 0 9; of 0 = 9 9 0 NONE; copies 0 = 1 NONE");
        holds("2: A disk comes, empty. (and stays, in the place of one that failed while it was leaving)",
                "disk 0 2; disk 1 2; chunks 2 = 2; disk 2 2; leave 0 = 2; fail 0 = 2; disk 0 1; of 0 = 1 1 0 NONE",
                "counts = 3 2 2 2 0 0 0");
        holds("2: IndexOutOfBoundsException: it is not 0 .. 11",
                "disk -1 1 = !index; disk 12 1 = !index; disk 0 1; disk 11 1; count 0 = 2");
        holds("2: IllegalStateException: it is there",
                "disk 4 2; disk 4 2 = !state; disk 4 3 = !state; of 4 = 2 2 0 NONE; fail 4 = 0; disk 4 3; of 4 = 3 3 0 NONE");
        holds("2: IllegalStateException: it is there (leaving)",
                "disk 0 1; disk 1 1; chunk = 0; disk 2 1; leave 0 = 1; disk 0 5 = !state; of 0 = 1 0 1 0");
        holds("2: IllegalArgumentException: places are not 1 .. 200",
                "disk 4 0 = !argument; disk 4 201 = !argument; disk 4 -200 = !argument; disk 4 200; disk 5 1; count 0 = 2");
    }

    private static void promise3Chunk() {
        holds("3: A new chunk of words 0",
                "disk 0 2; disk 1 2; chunk = 0; write 0 0 1; write 0 1 2; write 0 2 3; write 0 3 4; free 0 = 2; chunk = 0",
                "read 0 0 = 0; read 0 1 = 0; read 0 2 = 0; read 0 3 = 0");
        holds("3: UnsupportedOperationException: refused",
                "chunk = !unsupported; disk 0 1; chunk = !unsupported; disk 1 1; chunk = 0; chunk = !unsupported");
        holds("3: UnsupportedOperationException: there are 400",
                "disk 0 200; disk 1 200; disk 2 200; disk 3 200; disk 4 200; chunks 399 = 399; chunk = 399",
                "chunk = !unsupported; counts = 5 400 500 0 0 0 0; free 17 = 2; chunk = 17; chunk = !unsupported");
        holds("3: UnsupportedOperationException: there are 400 (no room is made for one more)",
                "disk 0 200; disk 1 200; disk 2 200; disk 3 200; chunks 400 = 400; disk 4 2; chunk = !unsupported",
                "chunks 1 = 0; count 6 = 0; of 4 = 2 2 0 NONE; free 0 = 2; chunk = 0; count 6 = 0");
        holds("3: UnsupportedOperationException: there are 400 (the lost ones count)",
                "disk 0 200; disk 1 200; disk 2 200; disk 3 200; chunks 400 = 400; fail 0 = 200; fail 1 = 200",
                "disk 0 9; disk 1 9; chunk = !unsupported; chunks 9 = 0; counts = 4 400 209 0 200 0 0; free 2 = 0; chunk = 2");
    }

    private static void promise4Chunks() {
        holds("4: New chunks, at most n",
                "disk 0 5; disk 1 5; chunks 0 = 0; count 1 = 0; chunks 1 = 1; count 1 = 1; chunks 3 = 3; count 1 = 4");
        holds("4: up to the first that is refused: how many",
                "disk 0 5; disk 1 5; chunks 6 = 5; chunks 6 = 0; chunks MAX = 0; count 1 = 5; free 3 = 2; chunks MAX = 1",
                "copies 3 = 0 1");
        holds("4: up to the first that is refused (room is made, and no more than is used)",
                "disk 0 2; disk 1 2; chunks 9 = 2; disk 2 3; chunks 9 = 1; counts = 3 3 3 0 0 0 1; of 2 = 3 1 0 0");
        holds("4: up to the first that is refused (there are 400)",
                "disk 0 200; disk 1 200; disk 2 200; disk 3 200; disk 4 200; chunks 398 = 398; chunks 9 = 2; chunks MAX = 0",
                "count 1 = 400");
        holds("4: up to the first that is refused (400 at once, and no more)",
                "disk 0 200; disk 1 200; disk 2 200; disk 3 200; disk 4 200; chunks 401 = 400; count 1 = 400");
        holds("4: IllegalArgumentException: n is below 0",
                "disk 0 5; disk 1 5; chunks -1 = !argument; chunks MIN = !argument; count 1 = 0");
    }

    private static void promise5Free() {
        holds("5: A chunk is no more: how many copies it had (2, 1, 0)",
                "disk 0 3; disk 1 3; chunks 3 = 3; free 0 = 2; fail 0 = 2; free 1 = 1; of 1 = 3 2 0 2; fail 1 = 1; free 2 = 0",
                "counts = 0 0 0 0 0 0 0");
        holds("5: A chunk is no more (its places are free, and the others' are not)",
                "disk 0 2; disk 1 2; chunks 2 = 2; free 0 = 2; of 0 = 2 1 0 1; of 1 = 2 1 0 1; place 0 0 = !index; copies 1 = 0 1");
        holds("5: IndexOutOfBoundsException",
                "disk 0 2; disk 1 2; chunk = 0; free 1 = !index; free -1 = !index; free 400 = !index; free 0 = 2; free 0 = !index");
    }

    private static void promise6Write() {
        holds("6: Word i of a chunk becomes another one",
                "disk 0 2; disk 1 2; chunks 2 = 2; write 0 3 5; write 1 0 6; write 0 3 7; read 0 3 = 7; read 1 0 = 6",
                "read 0 2 = 0; read 1 1 = 0");
        holds("6: IndexOutOfBoundsException",
                "disk 0 2; disk 1 2; chunks 2 = 2; write 2 0 5 = !index; write 0 4 5 = !index; write 1 -1 5 = !index");
        holds("6: IllegalStateException: it is lost (with one copy it is not)",
                "disk 0 1; disk 1 1; chunk = 0; fail 0 = 1; write 0 0 4; read 0 0 = 4; fail 1 = 1; write 0 0 5 = !state",
                "disk 0 1; disk 1 1; write 0 0 5 = !state");
    }

    private static void promise7Read() {
        holds("7: Word i of a chunk (behind fail, step and leave)",
                "disk 0 1; disk 1 1; chunk = 0; write 0 0 77; write 0 3 78; fail 0 = 1; read 0 0 = 77; disk 2 1; disk 3 1",
                "step = 1; fail 1 = 1; read 0 0 = 77; step = 1; leave 2 = !unsupported; disk 4 1; leave 2 = 1; step = 3",
                "copies 0 = 3 4; read 0 0 = 77; read 0 3 = 78; read 0 1 = 0");
        holds("7: IndexOutOfBoundsException",
                "disk 0 2; disk 1 2; chunks 2 = 2; read 2 0 = !index; read 0 4 = !index; read 1 -1 = !index");
        holds("7: IllegalStateException: it is lost (with one copy it is not)",
                "disk 0 1; disk 1 1; chunk = 0; fail 0 = 1; read 0 0 = 0; fail 1 = 1; read 0 0 = !state; disk 0 1; read 0 3 = !state");
    }

    private static void promise8Fail() {
        holds("8: A disk fails, and is there no more: how many copies went (none)",
                "disk 0 1; fail 0 = 0; count 0 = 0; about 0 0 = !index");
        holds("8: A disk fails, and is there no more: how many copies went (all of a full one)",
                "disk 0 200; disk 1 200; chunks 200 = 200; fail 1 = 200; counts = 1 200 0 200 0 0 0; copies 199 = 0 NONE",
                "fail 0 = 200; counts = 0 200 0 0 200 0 0");
        holds("8: how many copies went (those of a disk that is leaving)",
                "disk 0 2; disk 1 2; chunks 2 = 2; disk 2 2; leave 0 = 2; step = 3; fail 0 = 1; counts = 2 2 2 1 0 0 0",
                "copies 0 = 1 2; copies 1 = 1 NONE");
        holds("8: how many copies went (a disk that is leaving keeps its own)",
                "disk 0 2; disk 1 2; chunks 2 = 2; disk 2 2; leave 0 = 2; fail 1 = 2; of 0 = 2 0 1 0; counts = 2 2 0 2 0 2 0");
        holds("8: IndexOutOfBoundsException",
                "fail 0 = !index; disk 0 1; fail -1 = !index; fail 12 = !index; fail 0 = 0; fail 0 = !index");
    }

    private static void promise9Leave() {
        holds("9: A disk is leaving from now on: how many copies it has",
                "disk 0 3; disk 1 3; chunks 2 = 2; disk 2 3; leave 1 = 2; of 1 = 3 1 1 0; counts = 3 2 3 0 0 2 0");
        holds("9: (without copies it is there no more at once)",
                "disk 0 3; disk 1 3; chunk = 0; disk 2 3; leave 2 = 0; about 2 0 = !index; counts = 2 1 3 0 0 0 0");
        holds("9: (without copies it is there no more at once) (the last disk)",
                "disk 0 3; leave 0 = 0; about 0 0 = !index; count 0 = 0; disk 0 4; of 0 = 4 4 0 NONE");
        holds("9: IndexOutOfBoundsException",
                "leave 0 = !index; disk 0 1; leave 1 = !index; leave -1 = !index; leave 12 = !index; leave 0 = 0; leave 0 = !index");
    }

    private static void promise9LeaveRefused() {
        holds("9: IllegalStateException: it is leaving",
                "disk 0 1; disk 1 1; chunk = 0; disk 2 1; disk 3 1; leave 0 = 1; leave 0 = !state; leave 1 = 1; leave 1 = !state");
        holds("9: IllegalStateException: some chunk is degraded",
                "disk 0 1; disk 1 1; chunk = 0; disk 2 9; disk 3 9; disk 4 9; fail 0 = 1; leave 1 = !state; leave 2 = !state",
                "step = 1; leave 1 = 1");
        holds("9: IllegalStateException: some chunk is lost",
                "disk 0 1; disk 1 1; chunk = 0; disk 2 9; disk 3 9; disk 4 9; fail 0 = 1; fail 1 = 1; leave 2 = !state",
                "free 0 = 0; leave 2 = 0; count 0 = 2");
        holds("9: IllegalStateException: some chunk is degraded or lost (one of many)",
                "disk 0 5; disk 1 5; chunks 3 = 3; disk 2 9; disk 3 9; disk 4 1; chunk = 3; copies 3 = 2 3; fail 3 = 1",
                "leave 0 = !state; leave 4 = !state; step = 1; leave 4 = 0");
        holds("9: UnsupportedOperationException: there are more chunks than the capacity would be (as many are not more)",
                "disk 0 2; disk 1 2; disk 2 2; chunks 3 = 3; leave 0 = !unsupported; leave 2 = !unsupported; free 0 = 2",
                "count 1 = 2; leave 2 = 2");
        holds("9: more chunks than the capacity would be (without the places of the largest of the rest)",
                "disk 0 9; disk 1 2; disk 2 2; chunks 3 = 3; leave 1 = !unsupported; leave 0 = !unsupported; free 2 = 2",
                "leave 1 = 1");
        holds("9: more chunks than the capacity would be (half the places of the rest, rounded down)",
                "disk 0 1; disk 1 1; disk 2 1; disk 3 1; chunks 2 = 2; leave 3 = !unsupported; disk 4 1; leave 3 = 1");
        holds("9: more chunks than the capacity would be (without those that are leaving already)",
                "disk 0 2; disk 1 2; chunks 2 = 2; disk 2 2; leave 0 = 2; leave 1 = !unsupported; stay 0; leave 1 = 2");
        holds("9: more chunks than the capacity would be (though the disk has no copies)",
                "disk 0 2; disk 1 2; chunks 2 = 2; disk 2 2; leave 0 = 2; leave 2 = !unsupported; of 2 = 2 2 0 NONE");
        holds("9: more chunks than the capacity would be (fewer than two are left)",
                "disk 0 9; disk 1 9; chunk = 0; leave 0 = !unsupported; free 0 = 2; leave 0 = 0; leave 1 = 0; count 0 = 0");
    }

    private static void promise10Stay() {
        holds("10: A disk that is leaving stays (what has moved, stays where it is)",
                "disk 0 2; disk 1 2; chunks 2 = 2; disk 2 2; leave 0 = 2; step = 3; stay 0; copies 0 = 1 2; copies 1 = 0 1",
                "of 0 = 2 1 0 1; counts = 3 2 3 0 0 0 0; step = 0; chunk = 2; copies 2 = 0 2");
        holds("10: IndexOutOfBoundsException",
                "stay 0 = !index; disk 0 1; stay 1 = !index; stay -1 = !index; stay 12 = !index");
        holds("10: IllegalStateException: it stays",
                "disk 0 1; stay 0 = !state; disk 1 1; chunk = 0; disk 2 1; leave 0 = 1; stay 1 = !state; stay 0; stay 0 = !state");
    }

    private static void promise11Step() {
        holds("11: 0 if none can be done (nothing is there)",
                "step = 0; disk 0 1; step = 0; disk 1 1; step = 0");
        holds("11: 0 if none can be done (all is well)",
                "disk 0 2; disk 1 2; chunks 2 = 2; disk 2 2; step = 0; copies 0 = 0 1; copies 1 = 0 1; counts = 3 2 3 0 0 0 0");
        holds("11: 0 if none can be done (a copy would have to move, and no disk has room)",
                "disk 0 1; disk 1 1; chunk = 0; disk 2 1; leave 0 = 1; fail 2 = 0; step = 0; copies 0 = 0 1; of 0 = 1 0 1 0");
    }

    private static void promise12Steps() {
        holds("12: Steps, at most n",
                "disk 0 4; disk 1 4; chunks 4 = 4; disk 2 4; leave 0 = 4; steps 0 = 0; count 5 = 4; steps 1 = 1; count 5 = 3",
                "steps 2 = 2; count 5 = 1; copies 2 = 1 2; copies 3 = 0 1");
        holds("12: until none can be done: how many",
                "steps MAX = 0; disk 0 4; disk 1 4; chunks 4 = 4; disk 2 4; leave 0 = 4; steps 5 = 4; steps 5 = 0; steps MAX = 0",
                "counts = 2 4 4 0 0 0 0");
        holds("12: until none can be done (those that make room count)",
                "disk 1 1; disk 2 1; chunk = 0; disk 0 1; disk 3 3; chunk = 1; leave 0 = 1; steps MAX = 2; count 6 = 1",
                "fail 1 = 1; steps MAX = 0");
        holds("12: until none can be done (over four hundred chunks)",
                "disk 0 200; disk 1 200; disk 2 200; disk 3 200; chunks 400 = 400; disk 4 200; disk 5 200; leave 0 = 200",
                "leave 1 = 200; steps MAX = 400; counts = 4 400 400 0 0 0 0; copies 0 = 4 5");
        holds("12: IllegalArgumentException: n is below 0",
                "disk 0 1; disk 1 1; chunk = 0; disk 2 1; leave 0 = 1; steps -1 = !argument; steps MIN = !argument; count 5 = 1");
    }

    private static void promise13Place() {
        holds("13: The disk of the first copy of a chunk (that on the lesser disk), or of the second one",
                "disk 7 1; disk 3 2; chunk = 0; place 0 0 = 3; place 0 1 = 7; disk 0 5; disk 9 5; leave 3 = 1; step = 3",
                "place 0 0 = 0; place 0 1 = 7; leave 7 = 1; step = 3; place 0 0 = 0; place 0 1 = 9");
        holds("13: NONE without (the second of a degraded chunk, whichever copy went)",
                "disk 0 2; disk 1 2; chunk = 0; fail 1 = 1; place 0 0 = 0; place 0 1 = NONE; disk 2 2; step = 1; fail 0 = 1",
                "place 0 0 = 2; place 0 1 = NONE");
        holds("13: NONE without (both of a lost chunk)",
                "disk 0 2; disk 1 2; chunk = 0; fail 1 = 1; fail 0 = 1; place 0 0 = NONE; place 0 1 = NONE");
        holds("13: IndexOutOfBoundsException",
                "disk 0 2; disk 1 2; chunk = 0; place 1 0 = !index; place 1 1 = !index; place -1 0 = !index; place 400 1 = !index");
    }

    private static void promise14About() {
        holds("14: 0 places, 1 free ones",
                "disk 0 2; disk 1 1; about 0 0 = 2; about 0 1 = 2; chunk = 0; about 0 0 = 2; about 0 1 = 1; about 1 1 = 0",
                "free 0 = 2; about 0 1 = 2; about 1 1 = 1");
        holds("14: 1 free ones (of a disk that is leaving)",
                "disk 0 5; disk 1 5; chunks 2 = 2; disk 2 5; leave 0 = 2; about 0 1 = 3; step = 3; about 0 1 = 4");
        holds("14: 2 whether it is leaving (1)",
                "disk 0 1; disk 1 1; chunk = 0; disk 2 1; leave 0 = 1; about 0 2 = 1; about 1 2 = 0; about 2 2 = 0");
        holds("14: 3 the least chunk with a copy on it, NONE without",
                "disk 0 3; disk 1 3; about 0 3 = NONE; chunks 3 = 3; about 0 3 = 0; free 0 = 2; about 0 3 = 1; about 1 3 = 1",
                "free 1 = 2; about 1 3 = 2; free 2 = 2; about 1 3 = NONE");
        holds("14: 3 the least chunk with a copy on it (the greatest number)",
                "disk 0 200; disk 1 200; disk 2 200; disk 3 199; disk 4 1; chunks 399 = 399; chunk = 399; about 4 3 = 399");
        holds("14: IndexOutOfBoundsException",
                "about 0 0 = !index; disk 0 1; about 1 0 = !index; about -1 0 = !index; about 12 3 = !index");
        holds("14: IllegalArgumentException: what is none of these",
                "disk 0 1; about 0 -1 = !argument; about 0 4 = !argument; about 0 MIN = !argument; about 0 MAX = !argument");
    }

    private static void promise15Count() {
        holds("15: 0 disks (leaving ones are there)",
                "count 0 = 0; disk 0 1; disk 1 1; count 0 = 2; chunk = 0; disk 2 1; leave 0 = 1; count 0 = 3; step = 3; count 0 = 2");
        holds("15: 1 chunks (degraded and lost ones too)",
                "disk 0 1; disk 1 1; chunk = 0; count 1 = 1; fail 0 = 1; count 1 = 1; fail 1 = 1; count 1 = 1; free 0 = 0; count 1 = 0");
        holds("15: 3 chunks degraded, 4 lost",
                "disk 0 1; disk 1 1; disk 2 1; disk 3 1; chunks 2 = 2; fail 0 = 1; fail 2 = 1; count 3 = 2; count 4 = 0",
                "fail 3 = 1; count 3 = 1; count 4 = 1; copies 0 = 1 NONE; copies 1 = NONE NONE");
        holds("15: 5 copies on disks that are leaving (both of a chunk)",
                "disk 0 2; disk 1 2; chunks 2 = 2; count 5 = 0; disk 2 2; disk 3 2; leave 0 = 2; count 5 = 2; leave 1 = 2",
                "count 5 = 4; step = 3; count 5 = 3; stay 1; count 5 = 1; steps 9 = 1; count 5 = 0");
        holds("15: 6 moves that made room, in all (for new chunks and in the steps 2 and 4)",
                "disk 0 1; disk 3 2; chunk = 0; fail 0 = 1; disk 1 1; disk 2 1; chunk = 1; step = 2; count 6 = 1; step = 1",
                "count 6 = 1; disk 4 2; chunk = 2; count 6 = 2; disk 0 1; disk 5 3; chunk = 3; count 6 = 2; leave 0 = 1",
                "step = 4; count 6 = 3; step = 3; count 6 = 3; free 0 = 2; free 1 = 2; free 2 = 2; fail 5 = 1; count 6 = 3");
        holds("15: 6 moves that made room, in all (none for those of step 3, none for a second copy)",
                "disk 0 1; disk 1 1; chunk = 0; disk 2 1; leave 0 = 1; step = 3; fail 1 = 1; disk 3 1; step = 1; count 6 = 0");
        holds("15: IllegalArgumentException: what is none of these",
                "count -1 = !argument; count 7 = !argument; count MIN = !argument; count MAX = !argument");
    }
}
