/**
 * A pool of disks of whatever sizes that keeps each chunk twice, on two disks, and uses all
 * the room that can be used so; disks come, leave and fail.
 */
public final class TwinPool {
    public static final int NONE = -1;

    private static final int DISKS = 12;
    private static final int MOST_PLACES = 200;
    private static final int CHUNKS = 400;
    private static final int WORDS = 4;
    // Far above what can be needed: a step 2 or 4 always lets a 1 or 3 follow, and those
    // use up degraded chunks and copies on leaving disks, of which steps make no new ones.
    private static final int MOST_STEPS = 1000000;

    // By disk; a disk that is not there has 0 places.
    private final int[] placesOf;
    private final int[] copiesOn;
    private final boolean[] leaving;

    // By chunk; a degraded chunk's one copy is the lesser, and without a copy both are NONE.
    private final boolean[] exists;
    private final int[] lesser;
    private final int[] greater;
    private final int[] words;

    private int movesForRoom;

    public TwinPool() {
        placesOf = new int[DISKS];
        copiesOn = new int[DISKS];
        leaving = new boolean[DISKS];
        exists = new boolean[CHUNKS];
        lesser = new int[CHUNKS];
        greater = new int[CHUNKS];
        words = new int[CHUNKS * WORDS];
        movesForRoom = 0;
        for (int c = 0; c < CHUNKS; c++) {
            lesser[c] = NONE;
            greater[c] = NONE;
        }
    }

    public void disk(int d, int places)
            throws IndexOutOfBoundsException, IllegalStateException, IllegalArgumentException {
        if (d < 0 || d >= DISKS) {
            throw new IndexOutOfBoundsException();
        }
        if (isThere(d)) {
            throw new IllegalStateException();
        }
        if (places < 1 || places > MOST_PLACES) {
            throw new IllegalArgumentException();
        }
        placesOf[d] = places;
    }

    public int chunk() throws UnsupportedOperationException {
        int c = newChunk();
        if (c == NONE) {
            throw new UnsupportedOperationException();
        }
        return c;
    }

    public int chunks(int n) throws IllegalArgumentException {
        if (n < 0) {
            throw new IllegalArgumentException();
        }
        int most = Math.min(n, CHUNKS);
        int made = 0;
        while (made < most && newChunk() != NONE) {
            made++;
        }
        return made;
    }

    public int free(int c) throws IndexOutOfBoundsException {
        if (!isChunk(c)) {
            throw new IndexOutOfBoundsException();
        }
        int had = copiesOf(c);
        if (greater[c] != NONE) {
            dropCopy(c, greater[c]);
        }
        if (lesser[c] != NONE) {
            dropCopy(c, lesser[c]);
        }
        exists[c] = false;
        return had;
    }

    public void write(int c, int i, int word) throws IndexOutOfBoundsException, IllegalStateException {
        if (!isChunk(c) || i < 0 || i >= WORDS) {
            throw new IndexOutOfBoundsException();
        }
        if (copiesOf(c) == 0) {
            throw new IllegalStateException();
        }
        words[c * WORDS + i] = word;
    }

    public int read(int c, int i) throws IndexOutOfBoundsException, IllegalStateException {
        if (!isChunk(c) || i < 0 || i >= WORDS) {
            throw new IndexOutOfBoundsException();
        }
        if (copiesOf(c) == 0) {
            throw new IllegalStateException();
        }
        return words[c * WORDS + i];
    }

    public int fail(int d) throws IndexOutOfBoundsException {
        if (!isThere(d)) {
            throw new IndexOutOfBoundsException();
        }
        int went = copiesOn[d];
        for (int c = 0; c < CHUNKS; c++) {
            if (isOn(c, d)) {
                dropCopy(c, d);
            }
        }
        takeAway(d);
        return went;
    }

    public int leave(int d)
            throws IndexOutOfBoundsException, IllegalStateException, UnsupportedOperationException {
        if (!isThere(d)) {
            throw new IndexOutOfBoundsException();
        }
        if (leaving[d] || chunksWith(2) < allChunks()) {
            throw new IllegalStateException();
        }
        if (allChunks() > capacityWithout(d)) {
            throw new UnsupportedOperationException();
        }
        leaving[d] = true;
        int has = copiesOn[d];
        if (hasLeft(d)) {
            takeAway(d);
        }
        return has;
    }

    public void stay(int d) throws IndexOutOfBoundsException, IllegalStateException {
        if (!isThere(d)) {
            throw new IndexOutOfBoundsException();
        }
        if (!leaving[d]) {
            throw new IllegalStateException();
        }
        leaving[d] = false;
    }

    public int step() {
        return nextStep();
    }

    public int steps(int n) throws IllegalArgumentException {
        if (n < 0) {
            throw new IllegalArgumentException();
        }
        int most = Math.min(n, MOST_STEPS);
        int done = 0;
        while (done < most && nextStep() != 0) {
            done++;
        }
        return done;
    }

    public int place(int c, boolean second) throws IndexOutOfBoundsException {
        if (!isChunk(c)) {
            throw new IndexOutOfBoundsException();
        }
        return second ? greater[c] : lesser[c];
    }

    public int about(int d, int what) throws IndexOutOfBoundsException, IllegalArgumentException {
        if (!isThere(d)) {
            throw new IndexOutOfBoundsException();
        }
        switch (what) {
            case 0:
                return placesOf[d];
            case 1:
                return freePlaces(d);
            case 2:
                return leaving[d] ? 1 : 0;
            case 3:
                return leastChunkOn(d);
            default:
                throw new IllegalArgumentException();
        }
    }

    public int count(int what) throws IllegalArgumentException {
        switch (what) {
            case 0:
                return disksThere();
            case 1:
                return allChunks();
            case 2:
                return capacityWithout(NONE);
            case 3:
                return chunksWith(1);
            case 4:
                return chunksWith(0);
            case 5:
                return copiesOnLeaving();
            case 6:
                return movesForRoom;
            default:
                throw new IllegalArgumentException();
        }
    }

    // ---- disks ----

    private boolean isThere(int d) {
        return d >= 0 && d < DISKS && placesOf[d] > 0;
    }

    private boolean stays(int d) {
        return isThere(d) && !leaving[d];
    }

    private int freePlaces(int d) {
        return placesOf[d] - copiesOn[d];
    }

    private boolean staysWithRoom(int d) {
        return stays(d) && freePlaces(d) > 0;
    }

    private void takeAway(int d) {
        placesOf[d] = 0;
        leaving[d] = false;
    }

    private boolean hasLeft(int d) {
        return leaving[d] && copiesOn[d] == 0;
    }

    /** The emptiest disk but one of all that stay and have a free place; NONE if there is none. */
    private int emptiestBut(int except) {
        int best = NONE;
        int mostFree = 0;
        for (int d = 0; d < DISKS; d++) {
            if (d != except && stays(d) && freePlaces(d) > mostFree) {
                best = d;
                mostFree = freePlaces(d);
            }
        }
        return best;
    }

    private int capacityWithout(int except) {
        int all = 0;
        int largest = 0;
        for (int d = 0; d < DISKS; d++) {
            if (d != except && stays(d)) {
                all += placesOf[d];
                largest = Math.max(largest, placesOf[d]);
            }
        }
        return Math.min(all / 2, all - largest);
    }

    private int disksThere() {
        int found = 0;
        for (int d = 0; d < DISKS; d++) {
            if (isThere(d)) {
                found++;
            }
        }
        return found;
    }

    private int copiesOnLeaving() {
        int found = 0;
        for (int d = 0; d < DISKS; d++) {
            if (leaving[d]) {
                found += copiesOn[d];
            }
        }
        return found;
    }

    private int leastChunkOn(int d) {
        for (int c = 0; c < CHUNKS; c++) {
            if (isOn(c, d)) {
                return c;
            }
        }
        return NONE;
    }

    // ---- chunks and their copies ----

    private boolean isChunk(int c) {
        return c >= 0 && c < CHUNKS && exists[c];
    }

    private boolean isOn(int c, int d) {
        return lesser[c] == d || greater[c] == d;
    }

    private int copiesOf(int c) {
        if (lesser[c] == NONE) {
            return 0;
        }
        return greater[c] == NONE ? 1 : 2;
    }

    private boolean isDegraded(int c) {
        return copiesOf(c) == 1;
    }

    /** The disk of a chunk's copy that is not on d; NONE without. */
    private int otherThan(int c, int d) {
        return lesser[c] == d ? greater[c] : lesser[c];
    }

    private int allChunks() {
        int found = 0;
        for (int c = 0; c < CHUNKS; c++) {
            if (exists[c]) {
                found++;
            }
        }
        return found;
    }

    private int chunksWith(int copies) {
        int found = 0;
        for (int c = 0; c < CHUNKS; c++) {
            if (exists[c] && copiesOf(c) == copies) {
                found++;
            }
        }
        return found;
    }

    private int leastUnusedNumber() {
        for (int c = 0; c < CHUNKS; c++) {
            if (!exists[c]) {
                return c;
            }
        }
        return NONE;
    }

    private void addCopy(int c, int d) {
        int other = lesser[c];
        if (other == NONE) {
            lesser[c] = d;
        } else {
            lesser[c] = Math.min(other, d);
            greater[c] = Math.max(other, d);
        }
        copiesOn[d]++;
    }

    private void dropCopy(int c, int d) {
        lesser[c] = otherThan(c, d);
        greater[c] = NONE;
        copiesOn[d]--;
        if (hasLeft(d)) {
            takeAway(d);
        }
    }

    private void moveCopy(int c, int from, int to) {
        dropCopy(c, from);
        addCopy(c, to);
    }

    // ---- making room, and new chunks ----

    /** Makes room beside d: the disk from which a copy moved; NONE if no chunk can give one. */
    private int makeRoomBeside(int d) {
        for (int c = 0; c < CHUNKS; c++) {
            int from = copyForRoom(c, d);
            if (from != NONE) {
                moveCopy(c, from, d);
                movesForRoom++;
                return from;
            }
        }
        return NONE;
    }

    /** The disk of the copy that would move to d if this chunk made room beside it; NONE if none may. */
    private int copyForRoom(int c, int d) {
        if (isOn(c, d)) {
            return NONE;
        }
        if (stays(lesser[c])) {
            return lesser[c];
        }
        return stays(greater[c]) ? greater[c] : NONE;
    }

    /** A new chunk: its number; NONE if it is refused or every number has a chunk. */
    private int newChunk() {
        // Both are looked at before room is made, for what is refused changes nothing.
        int c = leastUnusedNumber();
        int one = emptiestBut(NONE);
        if (c == NONE || one == NONE) {
            return NONE;
        }
        int two = emptiestBut(one);
        if (two == NONE && freePlaces(one) >= 2) {
            two = makeRoomBeside(one);
        }
        if (two == NONE) {
            return NONE;
        }
        exists[c] = true;
        addCopy(c, one);
        addCopy(c, two);
        clearWords(c);
        return c;
    }

    private void clearWords(int c) {
        for (int i = 0; i < WORDS; i++) {
            words[c * WORDS + i] = 0;
        }
    }

    // ---- steps ----

    private int nextStep() {
        if (mendOne()) {
            return 1;
        }
        if (makeRoomToMend()) {
            return 2;
        }
        if (moveOneOff()) {
            return 3;
        }
        return makeRoomToMoveOff() ? 4 : 0;
    }

    private boolean mendOne() {
        for (int c = 0; c < CHUNKS; c++) {
            int to = isDegraded(c) ? emptiestBut(lesser[c]) : NONE;
            if (to != NONE) {
                addCopy(c, to);
                return true;
            }
        }
        return false;
    }

    // Tried for the first such chunk alone: as no chunk could be mended, its disk is the
    // only one with room, so that every other such chunk is on the same disk.
    private boolean makeRoomToMend() {
        for (int c = 0; c < CHUNKS; c++) {
            if (isDegraded(c) && staysWithRoom(lesser[c])) {
                return makeRoomBeside(lesser[c]) != NONE;
            }
        }
        return false;
    }

    private boolean moveOneOff() {
        for (int d = 0; d < DISKS; d++) {
            if (leaving[d] && moveOneOffDisk(d)) {
                return true;
            }
        }
        return false;
    }

    private boolean moveOneOffDisk(int d) {
        for (int c = 0; c < CHUNKS; c++) {
            int to = isOn(c, d) ? emptiestBut(otherThan(c, d)) : NONE;
            if (to != NONE) {
                moveCopy(c, d, to);
                return true;
            }
        }
        return false;
    }

    // Tried for the first such chunk alone, as in makeRoomToMend: as no copy could be moved
    // off, the disk of its other copy is the only one with room.
    private boolean makeRoomToMoveOff() {
        for (int d = 0; d < DISKS; d++) {
            int beside = leaving[d] ? otherDiskWithRoom(d) : NONE;
            if (beside != NONE) {
                return makeRoomBeside(beside) != NONE;
            }
        }
        return false;
    }

    /** Of the least chunk on d whose other copy is on a disk that stays with room: that disk, or NONE. */
    private int otherDiskWithRoom(int d) {
        for (int c = 0; c < CHUNKS; c++) {
            if (isOn(c, d) && staysWithRoom(otherThan(c, d))) {
                return otherThan(c, d);
            }
        }
        return NONE;
    }
}
