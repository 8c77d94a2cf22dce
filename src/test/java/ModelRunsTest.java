import java.util.ArrayList;
import java.util.List;
import java.util.Random;
import java.util.function.IntSupplier;

/** Random runs of 512 calls, answered by the class and by the model: every answer and all that can be read must agree. */
public final class ModelRunsTest {
    /** What a run has more of than others. */
    private enum Style { ORDINARY, TERMS, FUSES, ERASES, CROWDED, MIXED }

    private final Random random;
    private final PackedPages real = new PackedPages();
    private final Model model = new Model();
    private final List<String> calls = new ArrayList<>();
    private final int keys;
    private final int alphabet;
    private final Style style;
    private int wrong = 0;

    private ModelRunsTest(long seed) {
        random = new Random(seed);
        keys = new int[] {4, 16, 64, 256, 256, 256}[random.nextInt(6)];
        alphabet = new int[] {1, 2, 4, 256}[random.nextInt(4)];
        style = Style.values()[random.nextInt(6)];
    }

    private void due(String call, int got, int want) {
        calls.add(call + " = " + got);
        if (got != want && wrong++ == 0) {
            System.out.println(String.join("\n", calls));
            System.out.println("  .. " + call + " answered " + got + ", the model says " + want);
        }
    }

    private void quiet(String call, int got, int want) {
        if (got != want) due(call, got, want);
    }

    private int key() { return random.nextInt(60) == 0 ? random.nextInt(600) - 300 : random.nextInt(keys) * (256 / keys); }

    /** Mostly a key that has a record. */
    private int usedKey() {
        int key = random.nextInt(256);
        return random.nextInt(8) == 0 || model.next(key) == -1 ? key() : model.next(key);
    }

    private int oneByte() { return random.nextInt(alphabet) * (256 / alphabet) & 255; }

    /** In mixed runs the lower keys pack well and the higher ones badly, so that pages with much in them meet padding. */
    private List<Integer> bytesFor(int key, int n) {
        if (style != Style.MIXED) return bytes(n);
        List<Integer> row = new ArrayList<>();
        for (int i = 0; i < n; i++) row.add(key < 100 ? 7 : random.nextInt(256));
        return row;
    }

    private int sizeOfValue() {
        return style == Style.CROWDED || style == Style.MIXED ? 6 + random.nextInt(3) : random.nextInt(9);
    }

    private void feed(List<Integer> row) {
        for (int from = 0; from < row.size(); from += 20) {
            int[] n = new int[5];
            for (int k = 0; k < 20; k++) n[k / 4] = n[k / 4] << 8 | (from + k < row.size() ? row.get(from + k) : 0);
            due("feed", real.feed(n[0], n[1], n[2], n[3], n[4]), model.feed(n[0], n[1], n[2], n[3], n[4]));
        }
        due("end " + row.size(), real.end(row.size()), model.end(row.size()));
    }

    private List<Integer> bytes(int n) {
        List<Integer> row = new ArrayList<>();
        for (int i = 0; i < n; i++) row.add(oneByte());
        return row;
    }

    private void feedFresh(List<Integer> row) {
        due("end 0", real.end(0), model.end(0));
        feed(row);
    }

    private void feedEntries() {
        List<Integer> row = new ArrayList<>();
        boolean large = random.nextInt(5) == 0 || style == Style.CROWDED;
        int entries = 1 + random.nextInt(large ? 60 : 6);
        for (int i = 0; i < entries && row.size() < 380; i++) {
            int key = random.nextInt(keys) * (256 / keys);
            int kind = new int[] {1, 1, 1, 2, 3, 4}[random.nextInt(6)];
            if (large && random.nextInt(30) > 0 && kind > 2) kind = 1;
            if (kind == 2 && random.nextInt(20) > 0) key = Math.max(0, usedKey() & 255);
            if (random.nextInt(20) > 0 && kind != 1 && model.value(key, 0) == -1) kind = 1;
            int n = kind == 1 ? sizeOfValue() : kind == 2 ? 0 : kind == 3 ? random.nextInt(4) : 1 + random.nextInt(4);
            row.add(16 * kind + n);
            row.add(key);
            row.addAll(bytesFor(key, kind == 3 ? 1 : kind == 2 ? 0 : n));
        }
        if (random.nextInt(15) == 0) row.set(random.nextInt(row.size()), random.nextInt(256));
        if (random.nextInt(15) == 0) row.remove(row.size() - 1);
        feedFresh(row);
    }

    private void two(String call, IntSupplier a, IntSupplier b) { due(call, a.getAsInt(), b.getAsInt()); }

    private void edit() {
        int dice = random.nextInt(style == Style.ERASES ? 13 : 9);
        int key = dice < 5 ? key() : usedKey();
        switch (dice) {
            case 0, 1, 2, 3, 4 -> {
                feedFresh(bytesFor(key, random.nextInt(40) == 0 ? 9 : sizeOfValue()));
                two("put " + key, () -> real.put(key), () -> model.put(key));
            }
            case 5 -> {
                feedFresh(bytes(random.nextInt(20) == 0 ? 9 : random.nextInt(5)));
                two("grow " + key, () -> real.grow(key), () -> model.grow(key));
            }
            case 6 -> {
                int n = random.nextInt(20) == 0 ? random.nextInt(20) - 10 : random.nextInt(5);
                int b = random.nextInt(40) == 0 ? random.nextInt(600) - 300 : oneByte();
                two("alter " + key + " " + n + " " + b, () -> real.alter(key, n, b), () -> model.alter(key, n, b));
            }
            case 7 -> {
                if (style != Style.CROWDED) two("erase " + key, () -> real.erase(key), () -> model.erase(key));
            }
            case 8 -> {
                if (style == Style.ERASES) two("erase " + key, () -> real.erase(key), () -> model.erase(key));
            }
            default -> two("erase " + key, () -> real.erase(key), () -> model.erase(key));
        }
    }

    /** Erases side by side, so that pages go. */
    private void sweep() {
        int key = random.nextInt(256);
        for (int i = 0; i < 14 && model.next(key) != -1; i++) {
            int gone = model.next(key);
            two("erase " + gone, () -> real.erase(gone), () -> model.erase(gone));
            key = gone;
        }
    }

    private void setFuse(int n) { two("fuse " + n, () -> real.fuse(n), () -> model.fuse(n)); }

    private void packTape() {
        switch (random.nextInt(3)) {
            case 0 -> {
                List<Integer> row = bytes(random.nextInt(401));
                for (int i = 0; i < 4 && row.size() > 20; i++) {
                    int from = random.nextInt(row.size() - 10), to = random.nextInt(row.size() - 10);
                    for (int k = 0; k < random.nextInt(200) && Math.max(from, to) + k < row.size(); k++) row.set(to + k, row.get(from + k));
                }
                feedFresh(row);
            }
            case 1 -> {
                List<Integer> row = new ArrayList<>();
                for (int i = 0; i < 10; i++) {
                    int n = random.nextInt(4) == 0 ? random.nextInt(128) : random.nextInt(6);
                    if (random.nextInt(3) == 0) { row.add(n); row.addAll(bytes(n + 1)); }
                    else { row.add(128 + random.nextInt(128)); row.add(random.nextInt(20)); }
                }
                feedFresh(row.subList(0, Math.min(400, random.nextInt(row.size() + 1))));
            }
            default -> { }
        }
        int filter = random.nextInt(6) - 1;
        for (int i = 0; i < 2; i++) {
            if (random.nextBoolean()) two("pack " + filter, () -> real.pack(filter), () -> model.pack(filter));
            else two("unpack " + filter, () -> real.unpack(filter), () -> model.unpack(filter));
            for (int k = -1; k <= 400; k++) quiet("tape " + k, real.tape(k), model.tape(k));
        }
    }

    private void change() {
        int dice = random.nextInt(100);
        if (dice < 62) {
            edit();
        } else if (dice < 72) {
            if (random.nextInt(20) > 0) feedEntries();
            for (int w = -1; w < 5; w++) quiet("would " + w, real.would(w), model.would(w));
            two("group", real::group, model::group);
        } else if (dice < 74) {
            two("compact", real::compact, model::compact);
        } else if (dice < 76 || style == Style.TERMS && dice < 80) {
            int what = random.nextInt(30) == 0 ? random.nextInt(9) - 2 : random.nextInt(5);
            int value = random.nextInt(new int[] {18, 18, 102, 34, 6}[Math.floorMod(what, 5)]);
            two("terms " + what + " " + value, () -> real.terms(what, value), () -> model.terms(what, value));
        } else if (dice < 80 || style == Style.FUSES && dice < 90) {
            int n = random.nextInt(10) == 0 ? -random.nextInt(4) : random.nextInt(random.nextBoolean() ? 12 : 400);
            setFuse(n);
        } else if (dice < 86) {
            int key = key();
            two("fetch " + key, () -> real.fetch(key), () -> model.fetch(key));
        } else if (dice < 90) {
            if (style != Style.CROWDED && style != Style.MIXED || random.nextInt(9) == 0) for (int i = random.nextInt(4); i >= 0; i--) two("undo", real::undo, model::undo);
        } else if (dice < 92) {
            packTape();
        } else if (dice < 94) {
            two("recover", real::recover, model::recover);
        } else if (dice < 97 && style != Style.CROWDED && random.nextInt(2) == 0) {
            sweep();
        }
        if (model.count(10) == 1 && random.nextInt(4) == 0) setFuse(random.nextInt(300));
        if (model.count(10) == 1 && random.nextInt(3) > 0) two("recover", real::recover, model::recover);
    }

    private void compareDisk() {
        for (int p = -1; p <= 10; p++) for (int k = -1; k <= 64; k++) quiet("block " + p + " " + k, real.block(p, k), model.block(p, k));
        for (int k = -1; k <= 21; k++) quiet("directory " + k, real.directory(k), model.directory(k));
        for (int k = -1; k <= 673; k++) quiet("journal " + k, real.journal(k), model.journal(k));
        for (int k = -2; k <= 26; k++) quiet("count " + k, real.count(k), model.count(k));
        quiet("status", real.status(), model.status());
        quiet("flaw", real.flaw(), model.flaw());
        quiet("written", real.written(), model.written());
        for (int k = -1; k <= model.count(12); k++) quiet("tape " + k, real.tape(k), model.tape(k));
    }

    private void comparePages() {
        for (int i = -1; i <= 10; i++) {
            for (int w = -1; w <= 10; w++) quiet("page " + i + " " + w, real.page(i, w), model.page(i, w));
            for (int f = -1; f <= 4; f++) quiet("packing " + i + " " + f, real.packing(i, f), model.packing(i, f));
            for (int j = -1; j <= model.page(i, 6); j++) {
                for (int w = -1; w <= 12; w++) quiet("entry " + i + " " + j + " " + w, real.entry(i, j, w), model.entry(i, j, w));
                for (int key = -2; key <= 256; key += 1 + random.nextInt(20)) quiet("behind " + i + " " + j + " " + key, real.behind(i, j, key), model.behind(i, j, key));
            }
        }
        for (int i = 0; i < 30; i++) {
            int key = random.nextInt(260) - 2;
            quiet("next " + key, real.next(key), model.next(key));
            for (int w = -1; w <= 10; w++) quiet("value " + key + " " + w, real.value(key, w), model.value(key, w));
        }
    }

    private boolean run() {
        if (random.nextInt(3) > 0) for (int what = 0; what < 5; what++) {
            int w = what, v = random.nextInt(new int[] {17, 17, 101, 33, 5}[what]);
            two("terms " + w + " " + v, () -> real.terms(w, v), () -> model.terms(w, v));
        }
        for (int i = 0; calls.size() < 512 && wrong == 0; i++) {
            change();
            compareDisk();
            if (i % 40 == 39) comparePages();
        }
        comparePages();
        return wrong == 0;
    }

    public static void main(String[] args) {
        int runs = args.length > 0 ? Integer.parseInt(args[0]) : 250;
        long first = args.length > 1 ? Long.parseLong(args[1]) : 0;
        for (long seed = first; seed < first + runs; seed++) {
            if (!new ModelRunsTest(seed).run()) {
                System.out.println("seed " + seed + " is not as due");
                System.exit(1);
            }
        }
        System.out.println(runs + " random runs are as the model says");
    }
}
