import java.util.ArrayList;
import java.util.List;
import java.util.TreeMap;
import java.util.TreeSet;

/**
 * The document's terms word for word, over sets and lists and without a shortcut: what
 * ModelTest holds TwinPool against.
 */
final class PlainPool {
    static final class Disk {
        final int number;
        final int places;
        boolean leaving = false;

        Disk(int number, int places) {
            this.number = number;
            this.places = places;
        }
    }

    static final class Chunk {
        final TreeSet<Integer> copies = new TreeSet<>();
        final int[] words = new int[4];
    }

    final TreeMap<Integer, Disk> disks = new TreeMap<>();
    final TreeMap<Integer, Chunk> chunks = new TreeMap<>();
    int moves = 0;

    /** How often something that a run must meet to be worth its time was met, by its name. */
    final TreeMap<String, Integer> met = new TreeMap<>();

    void meet(String what) {
        met.merge(what, 1, Integer::sum);
    }

    void disk(int d, int places) {
        if (d < 0 || d > 11) throw new IndexOutOfBoundsException();
        if (disks.containsKey(d)) throw new IllegalStateException();
        if (places < 1 || places > 200) throw new IllegalArgumentException();
        disks.put(d, new Disk(d, places));
    }

    int chunk() {
        int made = tryChunk();
        if (made < 0) throw new UnsupportedOperationException();
        return made;
    }

    int chunks(int n) {
        if (n < 0) throw new IllegalArgumentException();
        int made = 0;
        while (made < n && tryChunk() >= 0) made++;
        return made;
    }

    int free(int c) {
        int had = existing(c).copies.size();
        chunks.remove(c);
        forgetTheLeft();
        return had;
    }

    void write(int c, int i, int word) {
        wordsOf(c, i)[i] = word;
    }

    int read(int c, int i) {
        return wordsOf(c, i)[i];
    }

    int fail(int d) {
        there(d);
        int went = copiesOn(d);
        for (Chunk k : chunks.values()) k.copies.remove(d);
        disks.remove(d);
        return went;
    }

    int leave(int d) {
        Disk disk = there(d);
        if (disk.leaving) throw new IllegalStateException();
        for (Chunk k : chunks.values()) {
            if (k.copies.size() < 2) throw new IllegalStateException();
        }
        disk.leaving = true;
        if (chunks.size() > capacity()) {
            disk.leaving = false;
            throw new UnsupportedOperationException();
        }
        int has = copiesOn(d);
        forgetTheLeft();
        return has;
    }

    void stay(int d) {
        Disk disk = there(d);
        if (!disk.leaving) throw new IllegalStateException();
        disk.leaving = false;
    }

    int step() {
        int which = stepOne() ? 1 : stepTwo() ? 2 : stepThree() ? 3 : stepFour() ? 4 : 0;
        forgetTheLeft();
        meet("step " + which);
        return which;
    }

    int steps(int n) {
        if (n < 0) throw new IllegalArgumentException();
        int done = 0;
        while (done < n && step() != 0) done++;
        return done;
    }

    int place(int c, boolean second) {
        List<Integer> copies = new ArrayList<>(existing(c).copies);
        int at = second ? 1 : 0;
        return at < copies.size() ? copies.get(at) : -1;
    }

    int about(int d, int what) {
        Disk disk = there(d);
        if (what == 0) return disk.places;
        if (what == 1) return disk.places - copiesOn(d);
        if (what == 2) return disk.leaving ? 1 : 0;
        if (what != 3) throw new IllegalArgumentException();
        for (int c : chunks.keySet()) {
            if (chunks.get(c).copies.contains(d)) return c;
        }
        return -1;
    }

    int count(int what) {
        if (what == 0) return disks.size();
        if (what == 1) return chunks.size();
        if (what == 2) return capacity();
        if (what == 3) return (int) chunks.values().stream().filter(k -> k.copies.size() == 1).count();
        if (what == 4) return (int) chunks.values().stream().filter(k -> k.copies.isEmpty()).count();
        if (what == 5) {
            return disks.values().stream().filter(d -> d.leaving).mapToInt(d -> copiesOn(d.number)).sum();
        }
        if (what == 6) return moves;
        throw new IllegalArgumentException();
    }

    private Disk there(int d) {
        if (!disks.containsKey(d)) throw new IndexOutOfBoundsException();
        return disks.get(d);
    }

    private Chunk existing(int c) {
        if (!chunks.containsKey(c)) throw new IndexOutOfBoundsException();
        return chunks.get(c);
    }

    private int[] wordsOf(int c, int i) {
        Chunk k = existing(c);
        if (i < 0 || i > 3) throw new IndexOutOfBoundsException();
        if (k.copies.isEmpty()) throw new IllegalStateException();
        return k.words;
    }

    private int copiesOn(int d) {
        int found = 0;
        for (Chunk k : chunks.values()) {
            if (k.copies.contains(d)) found++;
        }
        return found;
    }

    private int freeOn(int d) {
        return disks.get(d).places - copiesOn(d);
    }

    private boolean stays(int d) {
        return disks.containsKey(d) && !disks.get(d).leaving;
    }

    private int capacity() {
        List<Integer> sizes = new ArrayList<>();
        for (Disk d : disks.values()) {
            if (!d.leaving) sizes.add(d.places);
        }
        if (sizes.size() < 2) return 0;
        int all = sizes.stream().mapToInt(s -> s).sum();
        int largest = sizes.stream().mapToInt(s -> s).max().getAsInt();
        return Math.min(all / 2, all - largest);
    }

    private void forgetTheLeft() {
        if (disks.values().removeIf(d -> d.leaving && copiesOn(d.number) == 0)) meet("a disk has left");
    }

    /** All disks that stay, have a free place and hold no copy of these; the emptiest first. */
    private List<Integer> withRoomBut(TreeSet<Integer> held) {
        List<Integer> found = new ArrayList<>();
        for (int d : disks.keySet()) {
            if (stays(d) && freeOn(d) > 0 && !held.contains(d)) found.add(d);
        }
        found.sort((a, b) -> freeOn(a) != freeOn(b) ? freeOn(b) - freeOn(a) : a - b);
        return found;
    }

    private int makeRoom(int d) {
        for (Chunk k : chunks.values()) {
            if (k.copies.contains(d)) continue;
            for (int from : k.copies) {
                if (stays(from)) {
                    meet("room made by a chunk of copies " + k.copies.size());
                    k.copies.remove(from);
                    k.copies.add(d);
                    moves++;
                    return from;
                }
            }
        }
        meet("no room could be made");
        return -1;
    }

    private int tryChunk() {
        int c = 0;
        while (chunks.containsKey(c)) c++;
        if (c > 399) {
            meet("400 chunks");
            return -1;
        }
        List<Integer> to = withRoomBut(new TreeSet<>());
        if (to.size() == 1 && freeOn(to.get(0)) >= 2) {
            int from = makeRoom(to.get(0));
            if (from >= 0) to.add(from);
        }
        if (to.size() < 2) return -1;
        Chunk k = new Chunk();
        k.copies.add(to.get(0));
        k.copies.add(to.get(1));
        chunks.put(c, k);
        return c;
    }

    private boolean stepOne() {
        for (Chunk k : chunks.values()) {
            if (k.copies.size() != 1) continue;
            List<Integer> to = withRoomBut(k.copies);
            if (!to.isEmpty()) {
                k.copies.add(to.get(0));
                return true;
            }
        }
        return false;
    }

    private boolean stepTwo() {
        for (Chunk k : chunks.values()) {
            if (k.copies.size() != 1) continue;
            int d = k.copies.first();
            if (stays(d) && freeOn(d) > 0 && makeRoom(d) >= 0) return true;
        }
        return false;
    }

    private boolean stepThree() {
        for (int d : disks.keySet()) {
            if (stays(d)) continue;
            for (Chunk k : chunks.values()) {
                if (!k.copies.contains(d)) continue;
                TreeSet<Integer> others = new TreeSet<>(k.copies);
                others.remove(d);
                List<Integer> to = withRoomBut(others);
                if (!to.isEmpty()) {
                    k.copies.remove(d);
                    k.copies.add(to.get(0));
                    return true;
                }
                if (!others.isEmpty() && !stays(others.first())) meet("both copies on disks that leave");
            }
            meet("nothing to move off a disk that leaves");
        }
        return false;
    }

    private boolean stepFour() {
        for (int leaver : disks.keySet()) {
            if (stays(leaver)) continue;
            for (Chunk k : chunks.values()) {
                if (!k.copies.contains(leaver)) continue;
                for (int d : k.copies) {
                    if (d != leaver && stays(d) && freeOn(d) > 0 && makeRoom(d) >= 0) return true;
                }
            }
        }
        return false;
    }
}
