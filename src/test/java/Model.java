import java.util.ArrayDeque;
import java.util.ArrayList;
import java.util.Arrays;
import java.util.Deque;
import java.util.List;
import java.util.Map;
import java.util.TreeMap;

/**
 * The document once more, written in the plainest way over the Java library and by other means than
 * the class (maps, lists, recursion, exceptions): the random runs compare the two.
 */
final class Model {
    static final int NONE = -1;

    /** What is refused, with its number. */
    private static final class Refused extends RuntimeException {
        private static final long serialVersionUID = 1L;
        final int by;
        Refused(int by) { super(null, null, false, false); this.by = by; }
    }

    /** The fuse has let its last byte through. */
    private static final class Blown extends RuntimeException {
        private static final long serialVersionUID = 1L;
        Blown() { super(null, null, false, false); }
    }

    /** A page in use. */
    private record Slot(int page, int fence) { }

    /** An entry: its kind, n, key and bytes. */
    private record Change(int kind, int n, int key, List<Integer> bytes) {
        List<Integer> row() {
            List<Integer> row = new ArrayList<>(List.of(16 * kind + n, key));
            row.addAll(bytes);
            return row;
        }
    }

    /** All that undo() brings back. */
    private static final class World {
        int[][] blocks = new int[10][64];
        int[] directory = new int[21];
        int[] journal = new int[673];
        int padding, tries, failed, calm;
        boolean down;

        World copy() {
            World w = new World();
            for (int p = 0; p < 10; p++) w.blocks[p] = blocks[p].clone();
            w.directory = directory.clone();
            w.journal = journal.clone();
            w.padding = padding; w.tries = tries; w.failed = failed; w.calm = calm; w.down = down;
            return w;
        }

        List<Slot> slots() {
            List<Slot> slots = new ArrayList<>();
            for (int i = 0; i < directory[0]; i++) slots.add(new Slot(directory[1 + 2 * i], directory[2 + 2 * i]));
            return slots;
        }

        void setSlots(List<Slot> slots) {
            directory[0] = slots.size();
            for (int i = 0; i < slots.size(); i++) {
                directory[1 + 2 * i] = slots.get(i).page();
                directory[2 + 2 * i] = slots.get(i).fence();
            }
        }

        int full() { return 120 - padding; }
    }

    private record Done(int act, World before) { }

    private World world = new World();
    private final int[] terms = {4, 8, 25, 8, 2};
    private List<Integer> tape = new ArrayList<>();
    private final Deque<Done> past = new ArrayDeque<>();
    private final List<Integer> held = new ArrayList<>();
    private final int[] told = new int[8];
    private int status, flaw = NONE, written, unpacked, fuse = NONE;

    Model() { world.directory[0] = 1; }

    // ---- rows of bytes

    static List<Integer> filter(List<Integer> row, int f) {
        List<Integer> out = new ArrayList<>();
        for (int i = 0; i < row.size(); i++) {
            int b = row.get(i), one = i < 1 ? 0 : row.get(i - 1), two = i < 2 ? 0 : row.get(i - 2);
            out.add(switch (f) { case 0 -> b; case 1 -> (b - one + 256) % 256; case 2 -> b ^ one; default -> (b - two + 256) % 256; });
        }
        return out;
    }

    static List<Integer> turnBack(List<Integer> row, int f) {
        List<Integer> out = new ArrayList<>();
        for (int i = 0; i < row.size(); i++) {
            int b = row.get(i), one = i < 1 ? 0 : out.get(i - 1), two = i < 2 ? 0 : out.get(i - 2);
            out.add(switch (f) { case 0 -> b; case 1 -> (b + one) % 256; case 2 -> b ^ one; default -> (b + two) % 256; });
        }
        return out;
    }

    static List<Integer> packed(List<Integer> plain, int f) {
        List<Integer> row = filter(plain, f), out = new ArrayList<>(), singles = new ArrayList<>();
        int i = 0;
        while (i < row.size()) {
            int bestN = 0, bestD = 0;
            for (int d = 1; d <= 127 && d <= i; d++) {
                int n = 0;
                while (n < 130 && i + n < row.size() && row.get(i + n).equals(row.get(i + n - d))) n++;
                if (n > bestN) { bestN = n; bestD = d; }
            }
            if (bestN < 3) { singles.add(row.get(i)); i++; continue; }
            tellSingles(singles, out);
            out.add(125 + bestN);
            out.add(bestD);
            i += bestN;
        }
        tellSingles(singles, out);
        return out;
    }

    private static void tellSingles(List<Integer> singles, List<Integer> out) {
        while (!singles.isEmpty()) {
            List<Integer> some = singles.subList(0, Math.min(128, singles.size()));
            out.add(some.size() - 1);
            out.addAll(some);
            some.clear();
        }
    }

    static int shape(List<Integer> plain) {
        int best = 0;
        for (int f = 1; f < 4; f++) if (packed(plain, f).size() < packed(plain, best).size()) best = f;
        return best;
    }

    /** Gives the place of the flaw, or NONE with what comes out in 'out'. */
    static int unpackInto(List<Integer> row, List<Integer> out) {
        int i = 0;
        while (i < row.size()) {
            int b = row.get(i);
            if (b < 128) {
                if (out.size() + b + 1 > 400) return i;
                i++;
                for (int k = 0; k <= b; k++) {
                    if (i == row.size()) return i;
                    out.add(row.get(i++));
                }
            } else {
                int n = b - 125;
                if (out.size() + n > 400) return i;
                i++;
                if (i == row.size()) return i;
                int d = row.get(i);
                if (d == 0 || d > 127 || d > out.size()) return i;
                i++;
                for (int k = 0; k < n; k++) out.add(out.get(out.size() - d));
            }
        }
        return NONE;
    }

    // ---- records and pages

    private static List<Integer> plain(Map<Integer, List<Integer>> records) {
        List<Integer> out = new ArrayList<>();
        records.forEach((key, value) -> { out.add(key); out.add(value.size()); out.addAll(value); });
        return out;
    }

    private static List<Integer> listOf(int[] row, int from, int to) {
        List<Integer> out = new ArrayList<>();
        for (int i = from; i < to; i++) out.add(row[i]);
        return out;
    }

    /** Reads one entry from a row; null, if it is none or not whole. */
    private static Change read(List<Integer> row, int at) {
        int kind = row.get(at) / 16, n = row.get(at) % 16;
        int size;
        if (kind == 1 && n <= 8) size = n;
        else if (kind == 2 && n == 0) size = 0;
        else if (kind == 3 && n <= 7) size = 1;
        else if (kind == 4 && n >= 1 && n <= 8) size = n;
        else return null;
        if (at + 2 + size > row.size()) return null;
        return new Change(kind, n, row.get(at + 1), new ArrayList<>(row.subList(at + 2, at + 2 + size)));
    }

    private static List<Change> log(int[] block) {
        List<Change> changes = new ArrayList<>();
        List<Integer> row = listOf(block, 0, 64);
        int at = 2 + block[1];
        while (at < 64 && row.get(at) != 0) {
            Change c = read(row, at);
            changes.add(c);
            at += c.row().size();
        }
        return changes;
    }

    private static int logSize(int[] block) {
        return log(block).stream().mapToInt(c -> c.row().size()).sum();
    }

    private static void change(TreeMap<Integer, List<Integer>> records, Change c) {
        switch (c.kind()) {
            case 1 -> records.put(c.key(), new ArrayList<>(c.bytes()));
            case 2 -> records.remove(c.key());
            case 3 -> records.get(c.key()).set(c.n(), c.bytes().get(0));
            default -> records.get(c.key()).addAll(c.bytes());
        }
    }

    private static TreeMap<Integer, List<Integer>> records(int[] block, int entries) {
        List<Integer> out = new ArrayList<>();
        if (unpackInto(listOf(block, 2, 2 + block[1]), out) != NONE) throw new IllegalStateException("a flaw on the disk");
        out = turnBack(out, block[0]);
        TreeMap<Integer, List<Integer>> records = new TreeMap<>();
        for (int i = 0; i < out.size(); i += 2 + out.get(i + 1))
            records.put(out.get(i), new ArrayList<>(out.subList(i + 2, i + 2 + out.get(i + 1))));
        for (Change c : log(block).subList(0, entries)) change(records, c);
        return records;
    }

    private static TreeMap<Integer, List<Integer>> records(int[] block) {
        return records(block, log(block).size());
    }

    private static TreeMap<Integer, List<Integer>> allRecords(World w) {
        TreeMap<Integer, List<Integer>> all = new TreeMap<>();
        for (Slot s : w.slots()) all.putAll(records(w.blocks[s.page()]));
        return all;
    }

    private static int orderFor(World w, int key) {
        List<Slot> slots = w.slots();
        int order = slots.size() - 1;
        while (slots.get(order).fence() > key) order--;
        return order;
    }

    private static int pageFor(World w, int key) { return w.slots().get(orderFor(w, key)).page(); }

    private static int[] blockOf(TreeMap<Integer, List<Integer>> records) {
        int f = shape(plain(records));
        List<Integer> row = packed(plain(records), f);
        int[] block = new int[64];
        block[0] = f;
        block[1] = row.size();
        for (int i = 0; i < row.size(); i++) block[2 + i] = row.get(i);
        return block;
    }

    private boolean fits(TreeMap<Integer, List<Integer>> records) {
        return records.size() <= 1 || 2 + packed(plain(records), shape(plain(records))).size() + terms[0] <= 64;
    }

    /** Does an edit in a world: what is told; the pages told anew are added. */
    private int edit(World w, Change c, List<Integer> anew) {
        int order = orderFor(w, c.key());
        Slot slot = w.slots().get(order);
        int[] block = w.blocks[slot.page()];
        TreeMap<Integer, List<Integer>> records = records(block);
        List<Integer> value = records.get(c.key());
        if (c.kind() != 1 && value == null) throw new Refused(-2);
        if (c.kind() == 1 && c.bytes().equals(value)) throw new Refused(-4);
        if (c.kind() == 3 && (c.n() >= value.size() || value.get(c.n()).equals(c.bytes().get(0)))) throw new Refused(-4);
        if (c.kind() == 4 && value.size() + c.n() > 8) throw new Refused(-4);
        int before = plain(records).size();
        change(records, c);
        int after = plain(records).size();
        if (c.kind() == 2 && records.isEmpty() && slot.fence() != 0) {
            List<Slot> slots = w.slots();
            slots.remove(order);
            w.setSlots(slots);
            return 2;
        }
        List<Integer> row = c.row();
        int at = 2 + block[1] + logSize(block);
        int left = 64 - at - row.size();
        if (left >= (c.kind() == 2 ? 0 : terms[0]) && (after <= w.full() || after <= before)) {
            for (int k = 0; k < row.size(); k++) block[at + k] = row.get(k);
            return 0;
        }
        List<TreeMap<Integer, List<Integer>>> parts = new ArrayList<>();
        spread(w, records, parts);
        List<Slot> slots = w.slots();
        for (int i = 0; i < parts.size(); i++) {
            int page = slot.page();
            if (i > 0) {
                page = 0;
                while (isIn(slots, page)) page++;
                if (page > 9) throw new Refused(-5);
                slots.add(order + i, new Slot(page, parts.get(i).firstKey()));
            }
            w.blocks[page] = blockOf(parts.get(i));
            anew.add(page);
        }
        w.setSlots(slots);
        return parts.size() == 1 ? 1 : 10 + parts.size() - 1;
    }

    private static boolean isIn(List<Slot> slots, int page) {
        return slots.stream().anyMatch(s -> s.page() == page);
    }

    private void spread(World w, TreeMap<Integer, List<Integer>> records, List<TreeMap<Integer, List<Integer>>> parts) {
        if (records.size() <= 1 || plain(records).size() <= w.full()) {
            boolean fits = fits(records);
            w.tries++;
            if (!fits) w.failed++;
            if (w.tries >= terms[1]) learn(w);
            if (fits) { parts.add(records); return; }
        }
        List<Integer> keys = new ArrayList<>(records.keySet());
        int cut = keys.get(keys.size() / 2);
        spread(w, new TreeMap<>(records.headMap(cut)), parts);
        spread(w, new TreeMap<>(records.tailMap(cut)), parts);
    }

    private void learn(World w) {
        if (w.failed * 100 > terms[2] * w.tries) {
            w.padding = Math.min(64, w.padding + terms[3]);
            w.calm = 0;
        } else if (++w.calm == 3) {
            w.padding = Math.max(0, w.padding - terms[3]);
            w.calm = 0;
        }
        w.tries = 0;
        w.failed = 0;
    }

    private void compactIn(World w, List<Integer> anew) {
        List<TreeMap<Integer, List<Integer>>> parts = new ArrayList<>();
        parts.add(new TreeMap<>());
        allRecords(w).forEach((key, value) -> {
            TreeMap<Integer, List<Integer>> more = new TreeMap<>(parts.get(parts.size() - 1));
            more.put(key, value);
            if (more.size() == 1 || plain(more).size() <= w.full() && fits(more)) {
                parts.set(parts.size() - 1, more);
            } else {
                parts.add(new TreeMap<>(Map.of(key, value)));
            }
        });
        if (parts.size() > 10) throw new Refused(-5);
        List<Slot> slots = new ArrayList<>();
        for (int i = 0; i < parts.size(); i++) {
            slots.add(new Slot(i, i == 0 ? 0 : parts.get(i).firstKey()));
            w.blocks[i] = blockOf(parts.get(i));
            anew.add(i);
        }
        w.setSlots(slots);
    }

    // ---- writing

    private void write(int[] where, int place, int b) {
        if (fuse == 0) throw new Blown();
        if (fuse > 0) fuse--;
        where[place] = b;
        written++;
    }

    /** Carries a plan out, that may be cut off: true, if it was not. */
    private boolean act(int number, World then, Runnable writing) {
        past.addLast(new Done(number, world.copy()));
        if (past.size() > 16) past.removeFirst();
        world.padding = then.padding; world.tries = then.tries; world.failed = then.failed; world.calm = then.calm;
        written = 0;
        try {
            writing.run();
            return true;
        } catch (Blown blown) {
            world.down = true;
            fuse = NONE;
            held.clear();
            return false;
        }
    }

    private void throughJournal(World then, List<Integer> pages) {
        List<Integer> anew = new ArrayList<>(pages);
        anew.sort(null);
        int at = 1;
        write(world.journal, at++, anew.size());
        for (int p : anew) {
            write(world.journal, at++, p);
            for (int b : then.blocks[p]) write(world.journal, at++, b);
        }
        int size = 1 + 2 * then.directory[0];
        for (int k = 0; k < size; k++) write(world.journal, at++, then.directory[k]);
        write(world.journal, 0, 1);
        for (int p : anew) for (int k = 0; k < 64; k++) write(world.blocks[p], k, then.blocks[p][k]);
        for (int k = 0; k < size; k++) write(world.directory, k, then.directory[k]);
        write(world.journal, 0, 0);
    }

    private void recoverNow() {
        if (world.journal[0] == 1) {
            int at = 2;
            for (int i = 0; i < world.journal[1]; i++) {
                int p = world.journal[at++];
                for (int k = 0; k < 64; k++) write(world.blocks[p], k, world.journal[at++]);
            }
            int size = 1 + 2 * world.journal[at];
            for (int k = 0; k < size; k++) write(world.directory, k, world.journal[at++]);
            write(world.journal, 0, 0);
        }
        for (Slot s : world.slots()) {
            int[] block = world.blocks[s.page()];
            for (int k = 2 + block[1] + logSize(block); k < 64; k++) if (block[k] != 0) write(block, k, 0);
        }
        world.down = false;
    }

    // ---- the face

    private int tell(int answer, boolean refused) {
        status = refused ? answer : 0;
        if (refused) told[-answer]++;
        return answer;
    }

    private int refused(int by) { return tell(by, true); }

    private static boolean isByte(int n) { return n >= 0 && n < 256; }

    int terms(int what, int value) {
        int[][] bounds = {{0, 16}, {1, 16}, {0, 100}, {1, 32}, {1, 4}};
        if (what < 0 || what > 4 || value < bounds[what][0] || value > bounds[what][1]) return refused(-1);
        int before = terms[what];
        terms[what] = value;
        while (held.size() > terms[4]) held.remove(0);
        return tell(before, false);
    }

    int feed(int a, int b, int c, int d, int e) {
        if (tape.size() > 380) return NONE;
        for (int n : new int[] {a, b, c, d, e}) tape.addAll(List.of(n >>> 24, n >> 16 & 255, n >> 8 & 255, n & 255));
        return tape.size();
    }

    int end(int n) {
        if (n < 0 || n > tape.size()) return NONE;
        tape = new ArrayList<>(tape.subList(0, n));
        return n;
    }

    int tape(int i) { return i < 0 || i >= tape.size() ? NONE : tape.get(i); }

    int pack(int filter) {
        if (filter < -1 || filter > 3) return refused(-1);
        List<Integer> row = packed(tape, filter == NONE ? shape(tape) : filter);
        if (row.size() > 400) return refused(-5);
        tape = row;
        return tell(row.size(), false);
    }

    int unpack(int filter) {
        if (filter < 0 || filter > 3) return refused(-1);
        List<Integer> out = new ArrayList<>();
        flaw = unpackInto(tape, out);
        if (flaw != NONE) return refused(-6);
        tape = turnBack(out, filter);
        return tell(tape.size(), false);
    }

    int flaw() { return flaw; }

    int put(int key) {
        if (!isByte(key) || tape.size() > 8) return refused(-1);
        return alone(new Change(1, tape.size(), key, new ArrayList<>(tape)), 0);
    }

    int grow(int key) {
        if (!isByte(key) || tape.isEmpty() || tape.size() > 8) return refused(-1);
        return alone(new Change(4, tape.size(), key, new ArrayList<>(tape)), 1);
    }

    int alter(int key, int n, int value) {
        if (!isByte(key) || n < 0 || n > 7 || !isByte(value)) return refused(-1);
        return alone(new Change(3, n, key, List.of(value)), 2);
    }

    int erase(int key) {
        if (!isByte(key)) return refused(-1);
        return alone(new Change(2, 0, key, List.of()), 3);
    }

    private void use(int page) {
        if (!held.remove((Integer) page)) {
            unpacked++;
            if (held.size() >= terms[4]) held.remove(0);
        }
        held.add(page);
    }

    private int alone(Change c, int number) {
        if (world.down) return refused(-3);
        int page = pageFor(world, c.key());
        use(page);
        World then = world.copy();
        List<Integer> anew = new ArrayList<>();
        int answer;
        try {
            answer = edit(then, c, anew);
        } catch (Refused r) {
            return refused(r.by);
        }
        if (number <= 1) tape = new ArrayList<>();
        boolean whole;
        if (answer == 0) {
            int[] block = world.blocks[page];
            int at = 2 + block[1] + logSize(block);
            List<Integer> row = c.row();
            whole = act(number, then, () -> {
                for (int k = 1; k < row.size(); k++) write(block, at + k, row.get(k));
                write(block, at, row.get(0));
            });
        } else {
            whole = act(number, then, () -> throughJournal(then, anew));
        }
        if (!whole) return refused(-7);
        held.removeIf(p -> !isIn(world.slots(), p));
        return tell(answer, false);
    }

    /** What a group gives: its answer, the place of its flaw, the world and the pages then. */
    private record Planned(int answer, int flaw, World then, List<Integer> differ) { }

    private Planned plan() {
        if (tape.isEmpty()) return new Planned(-6, 0, world, List.of());
        TreeMap<Integer, Change> changes = new TreeMap<>();
        for (int at = 0; at < tape.size();) {
            Change c = read(tape, at);
            if (c == null) return new Planned(-6, at, world, List.of());
            changes.put(at, c);
            at += c.row().size();
        }
        World then = world.copy();
        for (Map.Entry<Integer, Change> e : changes.entrySet()) {
            try {
                edit(then, e.getValue(), new ArrayList<>());
            } catch (Refused r) {
                return new Planned(r.by, e.getKey(), world, List.of());
            }
        }
        List<Integer> differ = new ArrayList<>();
        for (int p = 0; p < 10; p++) if (!Arrays.equals(then.blocks[p], world.blocks[p])) differ.add(p);
        return new Planned(changes.size(), NONE, then, differ);
    }

    int group() {
        if (world.down) return refused(-3);
        Planned p = plan();
        flaw = p.flaw();
        tape = new ArrayList<>();
        if (p.answer() < 0) return refused(p.answer());
        held.clear();
        return act(4, p.then(), () -> throughJournal(p.then(), p.differ())) ? tell(p.answer(), false) : refused(-7);
    }

    int compact() {
        if (world.down) return refused(-3);
        World then = world.copy();
        List<Integer> anew = new ArrayList<>();
        try {
            compactIn(then, anew);
        } catch (Refused r) {
            return refused(r.by);
        }
        held.clear();
        return act(5, then, () -> throughJournal(then, anew)) ? tell(anew.size(), false) : refused(-7);
    }

    int fuse(int n) {
        if (n < NONE) return refused(-1);
        int before = fuse;
        fuse = n;
        return tell(before, false);
    }

    int recover() {
        if (!world.down) return refused(-3);
        held.clear();
        return act(6, world, this::recoverNow) ? tell(written, false) : refused(-7);
    }

    int written() { return written; }

    int fetch(int key) {
        if (!isByte(key)) return refused(-1);
        if (world.down) return refused(-3);
        int page = pageFor(world, key);
        use(page);
        List<Integer> value = records(world.blocks[page]).get(key);
        if (value == null) return refused(-2);
        tape = new ArrayList<>(value);
        return tell(value.size(), false);
    }

    int undo() {
        if (past.isEmpty()) return refused(-4);
        Done done = past.removeLast();
        world = done.before();
        held.clear();
        return tell(done.act(), false);
    }

    int value(int key, int what) {
        if (world.down || !isByte(key)) return NONE;
        int page = pageFor(world, key);
        if (what == 1) return page;
        List<Integer> value = records(world.blocks[page]).get(key);
        if (value == null || what < 0) return NONE;
        if (what == 0) return value.size();
        return what - 2 < value.size() ? value.get(what - 2) : NONE;
    }

    int next(int key) {
        if (world.down || !isByte(key)) return NONE;
        Integer found = allRecords(world).ceilingKey(key);
        return found == null ? NONE : found;
    }

    private boolean noPage(int i) { return world.down || i < 0 || i >= world.directory[0]; }

    int page(int i, int what) {
        if (noPage(i)) return NONE;
        Slot s = world.slots().get(i);
        int[] block = world.blocks[s.page()];
        return switch (what) {
            case 0 -> s.page();
            case 1 -> s.fence();
            case 2 -> records(block).size();
            case 3 -> plain(records(block)).size();
            case 4 -> block[0];
            case 5 -> block[1];
            case 6 -> log(block).size();
            case 7 -> logSize(block);
            case 8 -> 62 - block[1] - logSize(block);
            case 9 -> held.contains(s.page()) ? 1 : 0;
            default -> NONE;
        };
    }

    int packing(int i, int filter) {
        if (noPage(i) || filter < 0 || filter > 3) return NONE;
        return packed(plain(records(world.blocks[world.slots().get(i).page()])), filter).size();
    }

    int entry(int i, int j, int what) {
        if (noPage(i)) return NONE;
        List<Change> log = log(world.blocks[world.slots().get(i).page()]);
        if (j < 0 || j >= log.size() || what < 0) return NONE;
        Change c = log.get(j);
        return switch (what) {
            case 0 -> c.kind();
            case 1 -> c.n();
            case 2 -> c.key();
            default -> what - 3 < c.bytes().size() ? c.bytes().get(what - 3) : NONE;
        };
    }

    int behind(int i, int j, int key) {
        if (noPage(i)) return NONE;
        int[] block = world.blocks[world.slots().get(i).page()];
        if (j < 0 || j > log(block).size()) return NONE;
        TreeMap<Integer, List<Integer>> records = records(block, j);
        if (key == NONE) return records.size();
        return records.containsKey(key) ? records.get(key).size() : NONE;
    }

    int would(int what) {
        if (world.down || what < 0 || what > 3) return NONE;
        Planned p = plan();
        return switch (what) {
            case 0 -> p.answer();
            case 1 -> p.answer() < 0 ? 0 : 3 + 129 * p.differ().size() + 2 * (1 + 2 * p.then().directory[0]);
            case 2 -> p.then().padding;
            default -> p.then().directory[0];
        };
    }

    int block(int page, int k) { return page < 0 || page > 9 || k < 0 || k > 63 ? NONE : world.blocks[page][k]; }

    int directory(int k) { return k < 0 || k > 20 ? NONE : world.directory[k]; }

    int journal(int k) { return k < 0 || k > 672 ? NONE : world.journal[k]; }

    int count(int what) {
        if (what >= 13 && what <= 19) return told[what - 12];
        if (what >= 20 && what <= 24) return terms[what - 20];
        if (world.down && what >= 0 && what <= 2) return NONE;
        return switch (what) {
            case 0 -> allRecords(world).size();
            case 1 -> world.directory[0];
            case 2 -> world.slots().stream().mapToInt(s -> log(world.blocks[s.page()]).size()).sum();
            case 3 -> world.padding;
            case 4 -> world.tries;
            case 5 -> world.failed;
            case 6 -> world.calm;
            case 7 -> held.size();
            case 8 -> unpacked;
            case 9 -> fuse;
            case 10 -> world.down ? 1 : 0;
            case 11 -> past.size();
            case 12 -> tape.size();
            default -> NONE;
        };
    }

    int status() { return status; }
}
