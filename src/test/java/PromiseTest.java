import java.util.function.Consumer;

/** Each promise of the document by itself: ordinary inputs, the edges it names, wrong inputs. */
public final class PromiseTest extends Stores {

    private static void newObject() {
        PackedPages x = new PackedPages();
        due("NONE", PackedPages.NONE, -1);
        due("directory(0)", x.directory(0), 1);
        for (int k = 1; k <= 20; k++) due("directory", x.directory(k), 0);
        for (int p = 0; p < 10; p++) for (int k = 0; k < 64; k++) due("block", x.block(p, k), 0);
        for (int k = 0; k < 673; k++) due("journal", x.journal(k), 0);
        int[] counts = {0, 1, 0, 0, 0, 0, 0, 0, 0, -1, 0, 0, 0, 0, 0, 0, 0, 0, 0, 0, 4, 8, 25, 8, 2};
        for (int w = 0; w < counts.length; w++) due("count(" + w + ")", x.count(w), counts[w]);
        due("status()", x.status(), 0);
        due("flaw()", x.flaw(), -1);
        due("written()", x.written(), 0);
        due("next(0)", x.next(0), -1);
        due("page(0, 8)", x.page(0, 8), 62);
    }

    private static void terms() {
        PackedPages x = new PackedPages();
        int[] first = {4, 8, 25, 8, 2}, low = {0, 1, 0, 1, 1}, high = {16, 16, 100, 32, 4};
        for (int w = 0; w < 5; w++) {
            due("terms low", x.terms(w, low[w]), first[w]);
            due("terms high", x.terms(w, high[w]), low[w]);
            due("terms too low", x.terms(w, low[w] - 1), -1);
            due("status()", x.status(), -1);
            due("terms too high", x.terms(w, high[w] + 1), -1);
            due("count", x.count(20 + w), high[w]);
            due("terms again", x.terms(w, first[w]), high[w]);
            due("status()", x.status(), 0);
        }
        due("terms(-1, 1)", x.terms(-1, 1), -1);
        due("terms(5, 1)", x.terms(5, 1), -1);
        due("count(13)", x.count(13), 12);
        due("terms, down", downStore().terms(0, 3), 4);
        PackedPages y = twoPages();
        y.fetch(0);
        y.fetch(100);
        due("count(7)", y.count(7), 2);
        due("terms(4, 1)", y.terms(4, 1), 2);
        due("count(7)", y.count(7), 1);
        due("page(0, 9): used the longest ago", y.page(0, 9), 0);
        due("page(1, 9)", y.page(1, 9), 1);
        learningByTerms();
    }

    /** More tries than a round that was made shorter are looked at with the next try, not by terms(). */
    private static void learningByTerms() {
        PackedPages x = new PackedPages();
        for (int key = 0; key < 12; key++) putSmooth(x, key);
        int tries = x.count(4);
        due("some tries", tries > 1 ? 1 : 0, 1);
        x.terms(1, 1);
        due("count(4)", x.count(4), tries);
        due("count(6)", x.count(6), 0);
        due("put(12)", putSmooth(x, 12), 11);
        due("count(4)", x.count(4), 0);
        due("count(6)", x.count(6), 2);
    }

    private static void feed() {
        PackedPages x = new PackedPages();
        due("feed", x.feed(0x01020304, -1, 0x80000000, 0x7F, 0xFF00), 20);
        dueTape(x, 1, 2, 3, 4, 255, 255, 255, 255, 128, 0, 0, 0, 0, 0, 0, 127, 0, 0, 255, 0);
        for (int n = 40; n <= 400; n += 20) due("feed", x.feed(n, 0, 0, 0, 0), n);
        due("feed", x.feed(0, 0, 0, 0, 0), -1);
        due("status()", x.status(), 0);
        due("count(13)", x.count(13), 0);
        x.end(381);
        due("feed", x.feed(0, 0, 0, 0, 0), -1);
        due("count(12)", x.count(12), 381);
        x.end(380);
        due("feed", x.feed(1, 2, 3, 4, 5), 400);
        due("tape(383)", x.tape(383), 1);
        due("tape(399)", x.tape(399), 5);
        due("feed, down", downStore().feed(0, 0, 0, 0, 0), 20);
    }

    private static void end() {
        PackedPages x = new PackedPages();
        due("end(0)", x.end(0), 0);
        due("end(1)", x.end(1), -1);
        x.feed(0x01020304, 0, 0, 0, 0);
        due("end(21)", x.end(21), -1);
        due("end(-1)", x.end(-1), -1);
        due("end(MIN)", x.end(Integer.MIN_VALUE), -1);
        due("end(20)", x.end(20), 20);
        due("end(3)", x.end(3), 3);
        dueTape(x, 1, 2, 3);
        due("end(4)", x.end(4), -1);
        due("count(13)", x.count(13), 0);
    }

    private static void tape() {
        PackedPages x = new PackedPages();
        due("tape(0)", x.tape(0), -1);
        lay(x, 9, 8);
        due("tape(0)", x.tape(0), 9);
        due("tape(1)", x.tape(1), 8);
        due("tape(2)", x.tape(2), -1);
        due("tape(-1)", x.tape(-1), -1);
        due("tape(MAX)", x.tape(Integer.MAX_VALUE), -1);
    }

    private static void pack() {
        PackedPages x = new PackedPages();
        due("pack(0) of none", x.pack(0), 0);
        due("pack(-1) of none", x.pack(-1), 0);
        lay(x, 1, 2, 3, 1, 2, 3, 1, 2);
        due("pack(0)", x.pack(0), 6);
        dueTape(x, 2, 1, 2, 3, 130, 3);
        lay(x, 5, 6, 7, 9, 5, 6, 7, 8, 5, 6, 7);
        due("pack(0): the least d", x.pack(0), 11);
        dueTape(x, 3, 5, 6, 7, 9, 128, 4, 0, 8, 128, 4);
        lay(x, 5, 6, 7, 9, 5, 6, 7, 8, 5, 6, 7, 3);
        due("pack(0): the least d", x.pack(0), 13);
        dueTape(x, 3, 5, 6, 7, 9, 128, 4, 0, 8, 128, 4, 0, 3);
        lay(x, 1, 2);
        due("pack(-1): the lowest", x.pack(-1), 3);
        dueTape(x, 1, 1, 2);
        lay(x, 5, 6, 7, 9, 4, 5, 6, 7, 8, 5, 6, 7, 9);
        due("pack(0): the longest", x.pack(0), 12);
        dueTape(x, 4, 5, 6, 7, 9, 4, 128, 5, 0, 8, 129, 9);
        lay(x, 10, 11, 13, 16, 20);
        x.pack(1);
        dueTape(x, 4, 10, 1, 2, 3, 4);
        lay(x, 1, 3, 2);
        x.pack(2);
        dueTape(x, 2, 1, 2, 1);
        lay(x, 200, 7, 100, 8, 1);
        x.pack(3);
        dueTape(x, 4, 200, 7, 156, 1, 157);
        lay(x, 1, 2, 3, 4, 5, 6, 7, 8);
        due("pack(-1)", x.pack(-1), 4);
        dueTape(x, 0, 1, 132, 1);
        packEdges(x);
        due("pack(4)", x.pack(4), -1);
        due("pack(-2)", x.pack(-2), -1);
        due("pack, down", downStore().pack(0), 0);
    }

    private static void packEdges(PackedPages x) {
        lay(x, repeated(3, 131));
        x.pack(0);
        dueTape(x, 0, 3, 255, 1);
        lay(x, repeated(3, 132));
        x.pack(0);
        dueTape(x, 0, 3, 255, 1, 0, 3);
        lay(x, repeated(3, 134));
        x.pack(0);
        dueTape(x, 0, 3, 255, 1, 128, 1);
        int[] singles = new int[129];
        for (int i = 0; i < 129; i++) singles[i] = i;
        lay(x, singles);
        due("pack(0) of 129 single", x.pack(0), 131);
        due("tape(0)", x.tape(0), 127);
        due("tape(129)", x.tape(129), 0);
        due("tape(130)", x.tape(130), 128);
        int[] far = new int[130];
        for (int i = 0; i < 130; i++) far[i] = i < 127 ? i : i - 127;
        lay(x, far);
        due("pack(0), d 127", x.pack(0), 130);
        due("tape(128)", x.tape(128), 128);
        due("tape(129)", x.tape(129), 127);
        int[] farther = new int[131];
        for (int i = 0; i < 131; i++) farther[i] = i < 128 ? i : i - 128;
        lay(x, farther);
        due("pack(0), d would be 128", x.pack(0), 133);
        int[] all = roughRow(400);
        lay(x, all);
        due("pack(0), too long", x.pack(0), -5);
        due("status()", x.status(), -5);
        dueTape(x, all);
        due("pack(-1), too long", x.pack(-1), -5);
        due("end(396)", x.end(396), 396);
        due("pack(0), just not too long", x.pack(0), 400);
    }

    private static void dueFlaw(int filter, int place, int... row) {
        PackedPages x = new PackedPages();
        lay(x, row);
        due("unpack", x.unpack(filter), -6);
        due("flaw()", x.flaw(), place);
        due("status()", x.status(), -6);
        due("count(18)", x.count(18), 1);
        dueTape(x, row);
    }

    private static void unpack() {
        PackedPages x = new PackedPages();
        due("unpack(0) of none", x.unpack(0), 0);
        lay(x, 2, 1, 2, 3, 130, 3);
        due("unpack(0)", x.unpack(0), 8);
        dueTape(x, 1, 2, 3, 1, 2, 3, 1, 2);
        lay(x, 4, 10, 1, 2, 3, 4);
        x.unpack(1);
        dueTape(x, 10, 11, 13, 16, 20);
        lay(x, 2, 1, 2, 1);
        x.unpack(2);
        dueTape(x, 1, 3, 2);
        lay(x, 4, 200, 7, 156, 1, 157);
        x.unpack(3);
        dueTape(x, 200, 7, 100, 8, 1);
        int[] far = new int[130];
        far[0] = 126;
        for (int i = 1; i < 128; i++) far[i] = i;
        far[128] = 255;
        far[129] = 127;
        lay(x, far);
        due("unpack(0), d 127", x.unpack(0), 257);
        due("tape(256)", x.tape(256), 3);
        dueFlaw(0, 1, 0);
        dueFlaw(0, 3, 3, 1, 2);
        dueFlaw(1, 1, 128);
        dueFlaw(1, 1, 128, 1);
        dueFlaw(2, 3, 0, 7, 128, 0);
        dueFlaw(2, 3, 0, 7, 128, 2);
        dueFlaw(3, 3, 0, 7, 128, 128);
        dueFlaw(3, 3, 0, 7, 128);
        dueFlaw(0, 8, 0, 7, 255, 1, 255, 1, 255, 1, 255, 1);
        dueFlaw(0, 8, 0, 7, 255, 1, 255, 1, 255, 1, 9, 1);
        lay(x, 0, 7, 255, 1, 255, 1, 255, 1, 134, 1);
        due("unpack(0): 400 come out", x.unpack(0), 400);
        due("flaw()", x.flaw(), -1);
        lay(x, 0, 7, 255, 1, 255, 1, 255, 1, 8, 1, 2, 3, 4, 5, 6, 7, 8, 9);
        due("unpack(0): 400 come out", x.unpack(0), 400);
        due("unpack(4)", x.unpack(4), -1);
        due("unpack(-1)", x.unpack(-1), -1);
        due("count(12)", x.count(12), 400);
    }

    private static void flaw() {
        PackedPages x = new PackedPages();
        lay(x, 0);
        x.unpack(0);
        due("flaw()", x.flaw(), 1);
        x.unpack(9);
        due("flaw() behind -1", x.flaw(), 1);
        x.end(0);
        x.group();
        due("flaw() of an empty tape", x.flaw(), 0);
        lay(x, 0x10, 1, 0x10, 2, 0x50, 0);
        x.group();
        due("flaw(): kind 5", x.flaw(), 4);
        lay(x, 0x10, 1, 0x20, 2, 0x20, 3);
        x.group();
        due("flaw(): no such record", x.flaw(), 2);
        lay(x, 0x10, 1, 0x10, 2, 0x10, 1);
        due("would(0)", x.would(0), -4);
        due("flaw() behind would()", x.flaw(), 2);
        x.group();
        due("flaw(): put as it is", x.flaw(), 4);
        lay(x, 0x10, 1);
        x.group();
        due("flaw()", x.flaw(), -1);
        lay(x, 0x19, 1);
        x.group();
        due("flaw()", x.flaw(), 0);
        x.fuse(0);
        lay(x, 0x10, 9);
        due("group()", x.group(), -7);
        due("flaw() behind -7", x.flaw(), -1);
        lay(x, 128);
        x.unpack(0);
        due("group()", x.group(), -3);
        due("flaw() behind -3", x.flaw(), 1);
        PackedPages y = crowded();
        int[] row = new int[180];
        for (int i = 0; i < 18; i++) {
            int key = (i * 13 + 3) % 256;
            row[i * 10] = 0x18;
            row[i * 10 + 1] = key;
            int[] value = rough(key + 5000);
            System.arraycopy(value, 0, row, i * 10 + 2, 8);
        }
        lay(y, row);
        due("group(), no room", y.group(), -5);
        due("a tenth entry", y.flaw() % 10, 0);
        due("an entry on the tape", y.flaw() >= 0 && y.flaw() < 180 ? 1 : 0, 1);
    }

    private static void putting() {
        PackedPages x = new PackedPages();
        due("put(0)", put(x, 0, 1, 2, 3), 0);
        due("count(12)", x.count(12), 0);
        due("written()", x.written(), 5);
        dueBlock(x, 0, 0, 0, 0, 0x13, 0, 1, 2, 3, 0);
        due("put(0) as it is", put(x, 0, 1, 2, 3), -4);
        dueTape(x, 1, 2, 3);
        due("put(0) shorter", put(x, 0, 1, 2), 0);
        dueValue(x, 0, 1, 2);
        due("put(255)", put(x, 255), 0);
        dueValue(x, 255);
        due("put(255) as it is", put(x, 255), -4);
        due("put(256)", put(x, 256), -1);
        due("put(-1)", put(x, -1), -1);
        due("put with 9", put(x, 3, 1, 2, 3, 4, 5, 6, 7, 8, 9), -1);
        due("count(12)", x.count(12), 9);
        due("count(13)", x.count(13), 3);
        due("count(16)", x.count(16), 2);
        PackedPages down = downStore();
        due("put, down", put(down, 1, 1), -3);
        due("put, down, too long", put(down, 1, 1, 2, 3, 4, 5, 6, 7, 8, 9), -1);
        roomForEntries();
        noRoomForPut();
        fourPages();
    }

    /** The reserve is left by all but erasing. */
    private static void roomForEntries() {
        PackedPages x = new PackedPages();
        x.terms(0, 2);
        for (int key = 0; key < 6; key++) due("put", putRough(x, key), 0);
        due("page(0, 8)", x.page(0, 8), 2);
        due("alter, not in the reserve", x.alter(0, 0, x.value(0, 2) ^ 1), 11);
        x.undo();
        due("erase, in the reserve", x.erase(5), 0);
        due("page(0, 8)", x.page(0, 8), 0);
        due("erase, no room", x.erase(4), 1);
        due("page(0, 6)", x.page(0, 6), 0);
        PackedPages y = new PackedPages();
        y.terms(0, 0);
        for (int key = 0; key < 6; key++) putRough(y, key);
        due("put(6), just room", put(y, 6), 0);
        due("page(0, 8)", y.page(0, 8), 0);
        PackedPages z = new PackedPages();
        for (int key = 0; key < 6; key++) due("put", put(z, key, 1, 2, 3, 4, 5, 6, key), 0);
        due("page(0, 8)", z.page(0, 8), 8);
        due("put with 4 left", put(z, 6, 1, 2), 0);
        due("page(0, 8)", z.page(0, 8), 4);
    }

    private static void noRoomForPut() {
        PackedPages x = crowded();
        int tapeBefore = x.count(12), padding = x.count(3), tries = x.count(4), failed = x.count(5), calm = x.count(6);
        int[] before = new int[640];
        for (int k = 0; k < 640; k++) before[k] = x.block(k / 64, k % 64);
        due("count(12)", tapeBefore, 8);
        int undoable = x.count(11), wrote = x.written();
        due("put again", x.put(lowestWithout(x)), x.status());
        if (x.status() == -5) {
            due("count(3)", x.count(3), padding);
            due("count(4)", x.count(4), tries);
            due("count(5)", x.count(5), failed);
            due("count(6)", x.count(6), calm);
            due("count(11)", x.count(11), undoable);
            due("written()", x.written(), wrote);
            for (int k = 0; k < 640; k++) due("block", x.block(k / 64, k % 64), before[k]);
        }
    }

    private static int lowestWithout(PackedPages x) {
        for (int key = 0; key < 256; key++) if (x.value(key, 0) == -1) return key;
        return 0;
    }

    /** A page that holds twice what padding lets it comes apart into four. */
    private static void fourPages() {
        PackedPages x = new PackedPages();
        x.terms(0, 0);
        for (int key = 0; key < 24; key += 2) putSmooth(x, key);
        due("page(0, 3)", x.page(0, 3), 120);
        due("put(250)", putRough(x, 250), 11);
        for (int key = 1; key < 11; key += 2) putSmooth(x, key);
        due("put(11)", put(x, 11, 7, 7, 7, 7, 7, 7, 7), 0);
        due("page(0, 2)", x.page(0, 2), 12);
        due("page(0, 3)", x.page(0, 3), 119);
        for (int i = 0; i < 30 && x.page(0, 6) > 0; i++) x.alter(0, 0, x.value(0, 2) ^ 1);
        due("page(0, 6), packed anew", x.page(0, 6), 0);
        x.terms(1, 1);
        x.terms(2, 0);
        x.terms(3, 32);
        int key = 249;
        while (x.count(3) < 64 && key > 200) {
            putRough(x, key--);
            if (x.count(3) > 0) x.terms(1, 3);
        }
        due("count(3)", x.count(3), 64);
        int pages = x.count(1);
        due("page(0, 3)", x.page(0, 3), 119);
        due("alter: PLAIN above FULL, but not above what it was", x.alter(0, 0, 8), 0);
        due("erase: less", x.erase(0), 0);
        due("put: more; 52 stay together, 59 do not", put(x, 0), 12);
        x.undo();
        x.undo();
        lay(x, 7);
        due("grow(11)", x.grow(11), 13);
        due("count(1)", x.count(1), pages + 3);
        for (int i = 0; i < 4; i++) {
            due("page(" + i + ", 1)", x.page(i, 1), 3 * i);
            due("page(" + i + ", 2)", x.page(i, 2), 3);
            if (i > 0) due("page(" + i + ", 0)", x.page(i, 0), pages - 1 + i);
            due("page(" + i + ", 9)", x.page(i, 9), i == 0 ? 1 : 0);
        }
    }

    private static void growing() {
        PackedPages x = new PackedPages();
        lay(x, 5);
        due("grow, no record", x.grow(1), -2);
        put(x, 1, 1, 2);
        lay(x, 3, 4, 5);
        due("grow(1)", x.grow(1), 0);
        due("count(12)", x.count(12), 0);
        due("written()", x.written(), 5);
        dueBlock(x, 0, 6, 0x43, 1, 3, 4, 5);
        dueValue(x, 1, 1, 2, 3, 4, 5);
        due("grow, empty tape", x.grow(1), -1);
        lay(x, 1, 2, 3, 4);
        due("grow, to 9", x.grow(1), -4);
        dueTape(x, 1, 2, 3, 4);
        x.end(3);
        due("grow, to 8", x.grow(1), 0);
        dueValue(x, 1, 1, 2, 3, 4, 5, 1, 2, 3);
        put(x, 2);
        lay(x, 1, 2, 3, 4, 5, 6, 7, 8);
        due("grow by 8", x.grow(2), 0);
        dueValue(x, 2, 1, 2, 3, 4, 5, 6, 7, 8);
        put(x, 2);
        lay(x, 0x48, 2, 1, 2, 3, 4, 5, 6, 7, 8);
        due("group, grow by 8", x.group(), 1);
        dueValue(x, 2, 1, 2, 3, 4, 5, 6, 7, 8);
        lay(x, 1, 2, 3, 4, 5, 6, 7, 8, 9);
        due("grow, tape of 9", x.grow(1), -1);
        x.end(1);
        due("grow(-1)", x.grow(-1), -1);
        due("grow(256)", x.grow(256), -1);
        PackedPages down = downStore();
        lay(down, 1);
        due("grow, down, no record", down.grow(7), -3);
        PackedPages y = new PackedPages();
        for (int key = 0; key < 5; key++) putSmooth(y, key);
        put(y, 5, 9, 9, 9);
        lay(y, 1, 2, 3);
        due("grow, spread", y.grow(5), 1);
        dueValue(y, 5, 9, 9, 9, 1, 2, 3);
        lay(y, 1, 2);
        y.fuse(2);
        due("grow, cut off", y.grow(5), -7);
        due("count(12)", y.count(12), 0);
    }

    private static void altering() {
        PackedPages x = new PackedPages();
        put(x, 9, 1, 2);
        due("alter(9, 1, 255)", x.alter(9, 1, 255), 0);
        due("written()", x.written(), 3);
        dueBlock(x, 0, 6, 0x31, 9, 255, 0);
        dueValue(x, 9, 1, 255);
        due("alter, as it is", x.alter(9, 1, 255), -4);
        due("alter, beyond", x.alter(9, 2, 0), -4);
        due("alter, no record", x.alter(8, 0, 0), -2);
        due("alter n 8", x.alter(9, 8, 0), -1);
        due("alter n -1", x.alter(9, -1, 0), -1);
        due("alter 256", x.alter(9, 0, 256), -1);
        due("alter -1", x.alter(9, 0, -1), -1);
        due("alter key 256", x.alter(256, 0, 0), -1);
        due("alter key -1", x.alter(-1, 0, 0), -1);
        lay(x, 1, 2, 3);
        due("alter(9, 0, 0)", x.alter(9, 0, 0), 0);
        due("the tape stays", x.count(12), 3);
        put(x, 3, 1, 2, 3, 4, 5, 6, 7, 8);
        due("alter n 7", x.alter(3, 7, 0), 0);
        PackedPages down = downStore();
        due("alter, down, no record", down.alter(7, 0, 0), -3);
        due("alter, down, n 8", down.alter(7, 8, 0), -1);
    }

    private static void erasing() {
        PackedPages x = new PackedPages();
        put(x, 9, 1, 2);
        lay(x, 5, 6);
        due("erase(8)", x.erase(8), -2);
        due("erase(9)", x.erase(9), 0);
        due("the tape stays", x.count(12), 2);
        due("written()", x.written(), 2);
        dueBlock(x, 0, 6, 0x20, 9, 0);
        due("erase(9)", x.erase(9), -2);
        due("erase(256)", x.erase(256), -1);
        due("erase(-1)", x.erase(-1), -1);
        due("the page with fence 0 stays", x.count(1), 1);
        due("erase, down", downStore().erase(7), -3);
        PackedPages y = twoPages();
        for (int key = 60; key < 120; key += 10) due("erase", y.erase(key), 0);
        int first = y.block(1, 0), packed = y.block(1, 1);
        due("erase(120)", y.erase(120), 2);
        due("written()", y.written(), 9);
        due("count(1)", y.count(1), 1);
        dueBlock(y, 1, 0, first, packed);
        due("directory(0)", y.directory(0), 1);
        due("directory(3), whatever was", y.directory(3), 1);
        due("directory(4), whatever was", y.directory(4), 60);
        due("journal(1)", y.journal(1), 0);
        due("journal(2)", y.journal(2), 1);
        for (int key = 0; key < 60; key += 10) due("erase", y.erase(key), y.status());
        due("count(0)", y.count(0), 0);
        due("count(1)", y.count(1), 1);
    }

    private static void grouping() {
        PackedPages x = new PackedPages();
        due("group(), empty tape", x.group(), -6);
        lay(x, 0x12, 1, 7, 8, 0x41, 1, 9, 0x31, 1, 5, 0x10, 2, 0x20, 2);
        due("group()", x.group(), 5);
        due("written()", x.written(), 3 + 129 + 6);
        due("count(12)", x.count(12), 0);
        dueValue(x, 1, 7, 5, 9);
        due("value(2, 0)", x.value(2, 0), -1);
        due("count(2)", x.count(2), 5);
        dueBlock(x, 0, 2, 0x12, 1, 7, 8, 0x41, 1, 9, 0x31, 1, 5, 0x10, 2, 0x20, 2, 0);
        int[][] unreadable = {{0}, {0x10}, {0x11, 1}, {0x19, 1, 0, 0, 0, 0, 0, 0, 0, 0, 0}, {0x21, 1, 0}, {0x38, 1, 0}, {0x30, 1},
            {0x40, 1}, {0x42, 1, 0}, {0x49, 1, 0, 0, 0, 0, 0, 0, 0, 0, 0}, {0x50, 1}, {0xF0, 1}, {0x20, 99, 0x0F}};
        for (int[] row : unreadable) {
            lay(x, row);
            due("group()", x.group(), -6);
            due("count(12)", x.count(12), 0);
        }
        due("count(18)", x.count(18), 1 + unreadable.length);
        groupsRefused(x);
        PackedPages down = downStore();
        lay(down, 0x10, 1);
        due("group(), down", down.group(), -3);
        due("the tape stays", down.count(12), 2);
        groupThatWritesNothing();
        groupAcrossPages();
    }

    private static void groupsRefused(PackedPages x) {
        int acts = x.count(11);
        lay(x, 0x10, 3, 0x20, 4);
        due("group()", x.group(), -2);
        due("none is done", x.value(3, 0), -1);
        lay(x, 0x10, 3, 0x10, 3);
        due("group()", x.group(), -4);
        lay(x, 0x10, 3, 0x30, 3, 1);
        due("group(), alter beyond", x.group(), -4);
        lay(x, 0x18, 3, 1, 2, 3, 4, 5, 6, 7, 8, 0x41, 3, 9);
        due("group(), grow to 9", x.group(), -4);
        due("count(12)", x.count(12), 0);
        due("count(11)", x.count(11), acts);
        due("written()", x.written(), 138);
        due("none is done", x.value(3, 0), -1);
    }

    /** Altered and altered back with room for neither in the log: what is packed is what it was. */
    private static void groupThatWritesNothing() {
        PackedPages x = new PackedPages();
        x.terms(0, 16);
        for (int key = 0; key < 4; key++) putRough(x, key);
        put(x, 4, 1, 2);
        x.compact();
        due("page(0, 8)", x.page(0, 8), 17);
        lay(x, 0x30, 4, 9, 0x30, 4, 1);
        due("would(1)", x.would(1), 9);
        due("group()", x.group(), 2);
        due("written()", x.written(), 9);
        due("journal(1), no block", x.journal(1), 0);
        due("journal(2), the directory", x.journal(2), 1);
        due("count(4), but tries", x.count(4), 2);
        PackedPages y = twoPages();
        int[] erased = new int[14];
        for (int i = 0; i < 7; i++) {
            erased[2 * i] = 0x20;
            erased[2 * i + 1] = 60 + 10 * i;
        }
        lay(y, erased);
        due("group()", y.group(), 7);
        due("the page goes", y.count(1), 1);
        due("its block differs by what was logged", y.journal(1), 1);
        due("journal(2)", y.journal(2), 1);
        due("written()", y.written(), 3 + 129 + 6);
        due("count(7)", y.count(7), 0);
    }

    private static void groupAcrossPages() {
        PackedPages x = twoPages();
        x.fetch(0);
        x.fetch(100);
        int unpacked = x.count(8);
        lay(x, 0x11, 1, 1, 0x11, 99, 1);
        due("group()", x.group(), 2);
        due("written()", x.written(), 3 + 258 + 10);
        due("journal(1)", x.journal(1), 2);
        due("journal(2)", x.journal(2), 0);
        due("journal(67)", x.journal(67), 1);
        due("count(7)", x.count(7), 0);
        due("count(8)", x.count(8), unpacked);
    }

    private static void compacting() {
        PackedPages x = new PackedPages();
        due("compact(), no record", x.compact(), 1);
        due("written()", x.written(), 138);
        due("undo()", x.undo(), 5);
        PackedPages y = twoPages();
        int tries = y.count(4);
        y.fetch(0);
        due("compact()", y.compact(), 2);
        due("page(0, 2)", y.page(0, 2), 12);
        due("page(0, 3)", y.page(0, 3), 120);
        due("page(0, 1)", y.page(0, 1), 0);
        due("page(1, 0)", y.page(1, 0), 1);
        due("page(1, 1)", y.page(1, 1), 120);
        due("page(1, 2)", y.page(1, 2), 1);
        due("count(2)", y.count(2), 0);
        due("count(4)", y.count(4), tries);
        due("count(7)", y.count(7), 0);
        due("written()", y.written(), 3 + 258 + 10);
        due("compact() again, all are written", y.compact(), 2);
        due("written()", y.written(), 3 + 258 + 10);
        y.terms(0, 16);
        due("compact() with more reserve", y.compact(), 2);
        due("page(0, 2)", y.page(0, 2), 11);
        due("compact(), down", downStore().compact(), -3);
        PackedPages z = new PackedPages();
        z.terms(0, 0);
        int[] keys = new int[256];
        int pages = 0;
        for (int i = 0; i < 56; i++) keys[pages++] = (i * 37) % 256;
        for (int i = 0; i < pages; i++) putRough(z, keys[i]);
        int used = z.count(0);
        z.terms(0, 16);
        due("compact(), more than ten", z.compact(), -5);
        due("status()", z.status(), -5);
        due("count(0)", z.count(0), used);
    }

    private static void fusing() {
        PackedPages x = new PackedPages();
        due("fuse(5)", x.fuse(5), -1);
        due("status()", x.status(), 0);
        due("count(9)", x.count(9), 5);
        due("fuse(-2)", x.fuse(-2), -1);
        due("status()", x.status(), -1);
        due("count(9)", x.count(9), 5);
        due("count(13)", x.count(13), 1);
        due("put(1)", put(x, 1), 0);
        due("count(9)", x.count(9), 3);
        due("fuse(2)", x.fuse(2), 3);
        due("put(2)", put(x, 2), 0);
        due("count(9)", x.count(9), 0);
        due("count(10)", x.count(10), 0);
        due("fetch(2)", x.fetch(2), 0);
        due("put(3)", put(x, 3), -7);
        due("count(9)", x.count(9), -1);
        due("count(10)", x.count(10), 1);
        due("count(7)", x.count(7), 0);
        due("count(19)", x.count(19), 1);
        due("fuse(MAX), down", x.fuse(Integer.MAX_VALUE), -1);
        due("fuse(-1)", x.fuse(-1), Integer.MAX_VALUE);
        due("fuse(MIN)", x.fuse(Integer.MIN_VALUE), -1);
        everyFuse(p -> putRough(p, 125), 2, 3);
        everyFuse(p -> { lay(p, 0x11, 1, 1, 0x20, 121, 0x20, 0); p.group(); }, 2, 2);
        everyFuse(PackedPages::compact, 2, 2);
    }

    /** Wherever an act is cut off: it is done wholly or not at all behind recovery. */
    private static void everyFuse(Consumer<PackedPages> act, int blocks, int pages) {
        int mark = 1 + 65 * blocks + 1 + 2 * pages + 1;
        int rest = 64 * blocks + 1 + 2 * pages + 1;
        PackedPages whole = twoPages();
        fillLog(whole);
        int[] before = records(whole);
        act.accept(whole);
        due("written()", whole.written(), mark + rest);
        int[] after = records(whole);
        for (int n = 0; n < mark + rest; n++) {
            PackedPages x = twoPages();
            fillLog(x);
            x.fuse(n);
            act.accept(x);
            due("status() with a fuse of " + n, x.status(), -7);
            due("written() with a fuse of " + n, x.written(), n);
            due("journal(0) with a fuse of " + n, x.journal(0), n >= mark ? 1 : 0);
            due("recover() with a fuse of " + n, x.recover(), n >= mark ? rest : 0);
            int[] now = records(x);
            int[] want = n >= mark ? after : before;
            for (int i = 0; i < now.length; i++) due("records with a fuse of " + n, now[i], want[i]);
            due("the padding as if done", x.count(3), whole.count(3));
            due("the tries as if done", x.count(4), whole.count(4));
        }
    }

    /** The log of the second page has no room then, and what is added makes it two pages. */
    private static void fillLog(PackedPages x) {
        x.terms(0, 0);
        for (int key = 121; key < 124; key++) putRough(x, key);
        due("page(1, 6)", x.page(1, 6) > 0 ? 1 : 0, 1);
    }

    private static void recovering() {
        PackedPages x = new PackedPages();
        due("recover(), not down", x.recover(), -3);
        due("status()", x.status(), -3);
        x.fuse(2);
        due("put, cut off", put(x, 1, 5, 0, 6), -7);
        dueBlock(x, 0, 2, 0, 1, 5, 0, 0);
        due("recover()", x.recover(), 2);
        dueBlock(x, 0, 2, 0, 0, 0, 0, 0);
        due("written()", x.written(), 2);
        due("count(10)", x.count(10), 0);
        due("count(11)", x.count(11), 2);
        x.fuse(4);
        put(x, 1, 5, 0, 6);
        due("recover() leaves 0 as it is", x.recover(), 3);
        x.fuse(100);
        due("compact(), cut off", x.compact(), -7);
        due("journal(0)", x.journal(0), 1);
        for (int n = 0; n < 3; n++) {
            x.fuse(20 + n);
            due("recover(), cut off", x.recover(), -7);
            due("written()", x.written(), 20 + n);
            due("count(10)", x.count(10), 1);
        }
        x.fuse(67);
        due("recover(), one too few", x.recover(), -7);
        due("journal(0)", x.journal(0), 1);
        x.fuse(68);
        due("recover()", x.recover(), 68);
        due("count(9)", x.count(9), 0);
        due("journal(0)", x.journal(0), 0);
        due("recover(), not down", x.recover(), -3);
    }

    private static void writing() {
        PackedPages x = new PackedPages();
        put(x, 1, 1, 2, 3);
        due("written()", x.written(), 5);
        x.erase(9);
        x.fetch(1);
        x.undo();
        due("written() behind what writes not", x.written(), 5);
        put(x, 1);
        due("written()", x.written(), 2);
        x.fuse(1);
        x.erase(1);
        due("written() of what is cut off", x.written(), 1);
        x.erase(1);
        due("written() behind -3", x.written(), 1);
        x.recover();
        due("written()", x.written(), 1);
        x.compact();
        due("written()", x.written(), 138);
    }

    private static void fetching() {
        PackedPages x = new PackedPages();
        put(x, 1, 9, 8, 7);
        put(x, 2);
        lay(x, 1, 1, 1, 1);
        due("fetch(3)", x.fetch(3), -2);
        due("count(12)", x.count(12), 4);
        due("fetch(1)", x.fetch(1), 3);
        dueTape(x, 9, 8, 7);
        due("fetch(2)", x.fetch(2), 0);
        dueTape(x);
        due("fetch(256)", x.fetch(256), -1);
        due("fetch(-1)", x.fetch(-1), -1);
        PackedPages down = downStore();
        due("fetch, down", down.fetch(7), -3);
        due("fetch, down", down.fetch(256), -1);
        holding();
    }

    private static void holding() {
        PackedPages x = twoPages();
        for (int key = 130; key < 250 && x.count(1) < 3; key += 10) putSmooth(x, key);
        due("count(1)", x.count(1), 3);
        lay(x, 0x10, 1);
        x.group();
        int last = x.page(2, 1), unpacked = x.count(8);
        due("count(7)", x.count(7), 0);
        x.fetch(0);
        x.fetch(x.page(1, 1));
        x.fetch(1);
        due("count(8)", x.count(8), unpacked + 2);
        x.fetch(last);
        due("page(0, 9)", x.page(0, 9), 1);
        due("page(1, 9), used the longest ago", x.page(1, 9), 0);
        due("page(2, 9)", x.page(2, 9), 1);
        due("count(8)", x.count(8), unpacked + 3);
        due("erase, no record, uses", x.erase(x.page(1, 1) + 1), -2);
        due("page(1, 9)", x.page(1, 9), 1);
        due("page(0, 9)", x.page(0, 9), 0);
        due("alter, as it is, uses", x.alter(0, 0, 7), -4);
        due("page(0, 9)", x.page(0, 9), 1);
        due("page(2, 9)", x.page(2, 9), 0);
        due("count(8)", x.count(8), unpacked + 5);
        x.fetch(300);
        x.alter(last, 9, 9);
        due("count(8): -1 uses none", x.count(8), unpacked + 5);
        x.terms(4, 4);
        x.fetch(last);
        due("count(7)", x.count(7), 3);
        int middle = x.page(1, 0), next = x.page(2, 1);
        for (int key = x.next(x.page(1, 1)); key < next; key = x.next(key)) x.erase(key);
        due("the page in the middle goes", x.count(1), 2);
        due("count(7)", x.count(7), 2);
        due("page(0, 9)", x.page(0, 9), 1);
        due("page(1, 9)", x.page(1, 9), 1);
        due("page(1, 1)", x.page(1, 1), next);
        due("value(.., 1)", x.value(next - 1, 1), 0);
        lay(x, 1, 2, 3, 4, 5, 6, 7, 8);
        for (int key = 1; key < 60 && x.count(1) == 2; key++) putRough(x, key);
        due("the lowest that is free", x.page(1, 0), middle);
        x.undo();
        due("count(7)", x.count(7), 0);
        PackedPages y = new PackedPages();
        y.fuse(0);
        put(y, 0);
        due("count(8), cut off", y.count(8), 1);
        due("count(7), cut off", y.count(7), 0);
    }

    private static void undoing() {
        PackedPages x = new PackedPages();
        due("undo()", x.undo(), -4);
        due("status()", x.status(), -4);
        put(x, 1, 1);
        lay(x, 2);
        x.grow(1);
        x.alter(1, 0, 9);
        x.erase(1);
        lay(x, 0x10, 3);
        x.group();
        x.compact();
        x.fuse(0);
        x.compact();
        x.recover();
        due("count(11)", x.count(11), 8);
        int[] acts = {6, 5, 5, 4, 3, 2, 1, 0};
        for (int act : acts) {
            due("undo()", x.undo(), act);
            due("down behind undo()", x.count(10), act == 6 ? 1 : 0);
        }
        due("undo()", x.undo(), -4);
        for (int p = 0; p < 10; p++) for (int k = 0; k < 64; k++) due("block", x.block(p, k), 0);
        for (int k = 0; k < 673; k++) due("journal", x.journal(k), 0);
        for (int i = 0; i < 20; i++) put(x, 1, i);
        due("count(11)", x.count(11), 16);
        for (int i = 0; i < 16; i++) due("undo()", x.undo(), 0);
        due("undo()", x.undo(), -4);
        dueValue(x, 1, 3);
        undoingWhatIsLearned();
    }

    private static void undoingWhatIsLearned() {
        PackedPages x = new PackedPages();
        x.terms(1, 1);
        x.terms(2, 0);
        int key = 0;
        while (x.count(3) == 0 && key < 20) putRough(x, key++);
        due("count(3)", x.count(3), 8);
        due("count(6)", x.count(6), 2);
        lay(x, 1, 2, 3);
        x.fuse(1000);
        x.terms(0, 9);
        int unpacked = x.count(8);
        due("undo()", x.undo(), 0);
        due("count(3)", x.count(3), 0);
        due("count(1)", x.count(1), 1);
        due("the fuse is not", x.count(9), 1000);
        due("terms are not", x.count(20), 9);
        due("the tape is not", x.count(12), 3);
        due("what was unpacked is not", x.count(8), unpacked);
        x.fuse(0);
        due("erase(0)", x.erase(0), -7);
        due("count(10)", x.count(10), 1);
        due("undo(), down", x.undo(), 3);
        due("count(10)", x.count(10), 0);
        due("count(9)", x.count(9), -1);
    }

    private static void valueOf() {
        PackedPages x = twoPages();
        due("value(60, 0)", x.value(60, 0), 8);
        due("value(60, 1)", x.value(60, 1), 1);
        due("value(60, 2)", x.value(60, 2), 7);
        due("value(60, 9)", x.value(60, 9), 7);
        due("value(60, 10)", x.value(60, 10), -1);
        due("value(60, -1)", x.value(60, -1), -1);
        due("value(60, MIN)", x.value(60, Integer.MIN_VALUE), -1);
        due("value(60, MAX)", x.value(60, Integer.MAX_VALUE), -1);
        due("value(59, 0)", x.value(59, 0), -1);
        due("value(59, 1)", x.value(59, 1), 0);
        due("value(59, 2)", x.value(59, 2), -1);
        due("value(255, 1)", x.value(255, 1), 1);
        due("value(256, 1)", x.value(256, 1), -1);
        due("value(-1, 1)", x.value(-1, 1), -1);
        int unpacked = x.count(8);
        x.value(100, 0);
        due("on paper", x.count(8), unpacked);
        PackedPages down = downStore();
        for (int w = 0; w < 4; w++) due("value, down", down.value(5, w), -1);
    }

    private static void nextKey() {
        PackedPages x = twoPages();
        due("next(0)", x.next(0), 0);
        due("next(1)", x.next(1), 10);
        due("next(51)", x.next(51), 60);
        due("next(120)", x.next(120), 120);
        due("next(121)", x.next(121), -1);
        due("next(255)", x.next(255), -1);
        due("next(-1)", x.next(-1), -1);
        due("next(256)", x.next(256), -1);
        put(x, 255);
        due("next(255)", x.next(255), 255);
        due("next, down", downStore().next(0), -1);
    }

    private static void pageOf() {
        PackedPages x = twoPages();
        x.erase(60);
        int[] first = {0, 0, 6, 60, 0, x.block(0, 1), 0, 0, 62 - x.block(0, 1), 1};
        int[] second = {1, 60, 6, 60, 0, x.block(1, 1), 1, 2, 60 - x.block(1, 1), 1};
        for (int w = 0; w < 10; w++) {
            due("page(0, " + w + ")", x.page(0, w), first[w]);
            due("page(1, " + w + ")", x.page(1, w), second[w]);
            due("page(2, " + w + ")", x.page(2, w), -1);
            due("page(-1, " + w + ")", x.page(-1, w), -1);
            due("page, down", downStore().page(0, w), -1);
        }
        due("page(0, 10)", x.page(0, 10), -1);
        due("page(0, -1)", x.page(0, -1), -1);
        PackedPages y = new PackedPages();
        y.terms(0, 16);
        for (int key = 0; key < 60 && y.page(0, 6) == key; key += 1) put(y, key, key, key, key, key, key, key, key);
        due("page(0, 4): a filter that is shorter", y.page(0, 4), shortest(y));
    }

    private static int shortest(PackedPages x) {
        int best = 0;
        for (int f = 1; f < 4; f++) if (x.packing(0, f) < x.packing(0, best)) best = f;
        return best;
    }

    private static void packingOf() {
        PackedPages x = new PackedPages();
        for (int f = 0; f < 4; f++) due("packing of none", x.packing(0, f), 0);
        put(x, 7, 7, 7, 7, 7, 7);
        due("packing(0, 0): 7 5 7 7 7 7 7", x.packing(0, 0), 6);
        due("packing(0, 1): 7 254 2 0 0 0 0", x.packing(0, 1), 7);
        due("packing(0, 2): 7 2 2 0 0 0 0", x.packing(0, 2), 7);
        due("packing(0, 3): 7 5 0 2 0 0 0", x.packing(0, 3), 8);
        due("packing(0, 4)", x.packing(0, 4), -1);
        due("packing(0, -1)", x.packing(0, -1), -1);
        due("packing(1, 0)", x.packing(1, 0), -1);
        due("packing(-1, 0)", x.packing(-1, 0), -1);
        due("packing, down", downStore().packing(0, 0), -1);
    }

    private static void entryOf() {
        PackedPages x = new PackedPages();
        put(x, 7, 1, 2);
        lay(x, 3);
        x.grow(7);
        x.alter(7, 2, 4);
        x.erase(7);
        int[][] entries = {{1, 2, 7, 1, 2}, {4, 1, 7, 3}, {3, 2, 7, 4}, {2, 0, 7}};
        for (int j = 0; j < 4; j++) {
            for (int w = 0; w < entries[j].length; w++) due("entry(0, " + j + ", " + w + ")", x.entry(0, j, w), entries[j][w]);
            due("entry, behind its bytes", x.entry(0, j, entries[j].length), -1);
            due("entry, what -1", x.entry(0, j, -1), -1);
            due("entry, what MAX", x.entry(0, j, Integer.MAX_VALUE), -1);
        }
        due("entry(0, 4, 0)", x.entry(0, 4, 0), -1);
        due("entry(0, MAX, 0)", x.entry(0, Integer.MAX_VALUE, 0), -1);
        due("entry(0, -1, 0)", x.entry(0, -1, 0), -1);
        due("entry(1, 0, 0)", x.entry(1, 0, 0), -1);
        due("entry(-1, 0, 0)", x.entry(-1, 0, 0), -1);
        due("entry, down", downStore().entry(0, 0, 0), -1);
    }

    private static void behindSome() {
        PackedPages x = new PackedPages();
        put(x, 7, 1, 2);
        x.compact();
        put(x, 8, 1);
        x.erase(7);
        int[][] rows = {{1, 2, -1}, {2, 2, 1}, {1, -1, 1}};
        for (int j = 0; j < 3; j++) {
            due("behind(0, " + j + ", -1)", x.behind(0, j, -1), rows[j][0]);
            due("behind(0, " + j + ", 7)", x.behind(0, j, 7), rows[j][1]);
            due("behind(0, " + j + ", 8)", x.behind(0, j, 8), rows[j][2]);
        }
        due("behind(0, 3, -1)", x.behind(0, 3, -1), -1);
        due("behind(0, -1, -1)", x.behind(0, -1, -1), -1);
        due("behind(0, MAX, -1)", x.behind(0, Integer.MAX_VALUE, -1), -1);
        due("behind(1, 0, -1)", x.behind(1, 0, -1), -1);
        due("behind(-1, 0, -1)", x.behind(-1, 0, -1), -1);
        due("behind(0, 0, -2)", x.behind(0, 0, -2), -1);
        due("behind(0, 0, 256)", x.behind(0, 0, 256), -1);
        PackedPages y = twoPages();
        due("a record in another page", y.behind(0, 0, 60), -1);
        due("behind(1, 0, 60)", y.behind(1, 0, 60), 8);
        due("behind, down", downStore().behind(0, 0, -1), -1);
    }

    private static void wouldBe() {
        PackedPages x = new PackedPages();
        due("would(0), empty tape", x.would(0), -6);
        due("would(1), empty tape", x.would(1), 0);
        due("would(2), empty tape", x.would(2), 0);
        due("would(3), empty tape", x.would(3), 1);
        due("nothing is told of it", x.status(), 0);
        due("nothing is counted", x.count(18), 0);
        lay(x, 0x10, 1, 0x20, 1);
        x.fuse(0);
        due("would(0)", x.would(0), 2);
        due("would(1)", x.would(1), 138);
        due("would(4)", x.would(4), -1);
        due("would(-1)", x.would(-1), -1);
        due("count(12)", x.count(12), 4);
        due("count(10)", x.count(10), 0);
        due("count(2)", x.count(2), 0);
        lay(x, 0x20, 1);
        due("would(0)", x.would(0), -2);
        due("would(1)", x.would(1), 0);
        PackedPages down = downStore();
        lay(down, 0x10, 1);
        for (int w = 0; w < 4; w++) due("would, down", down.would(w), -1);
        PackedPages y = new PackedPages();
        y.terms(1, 1);
        y.terms(2, 0);
        int[] row = new int[200];
        for (int i = 0; i < 20; i++) {
            row[10 * i] = 0x18;
            row[10 * i + 1] = i * 12;
            System.arraycopy(rough(i), 0, row, 10 * i + 2, 8);
        }
        lay(y, row);
        int answer = y.would(0), bytes = y.would(1), padding = y.would(2), pages = y.would(3);
        due("padding is more", padding > 0 ? 1 : 0, 1);
        due("pages are more", pages > 1 ? 1 : 0, 1);
        due("nothing is done", y.count(3) + y.count(0), 0);
        due("group()", y.group(), answer);
        due("written()", y.written(), bytes);
        due("count(3)", y.count(3), padding);
        due("count(1)", y.count(1), pages);
    }

    private static void blockOf() {
        PackedPages x = downStore();
        dueBlock(x, 0, 0, 0, 0, 0x12, 5, 1, 2, 0, 0);
        due("block(0, 63)", x.block(0, 63), 0);
        due("block(9, 0)", x.block(9, 0), 0);
        due("block(10, 0)", x.block(10, 0), -1);
        due("block(-1, 0)", x.block(-1, 0), -1);
        due("block(0, 64)", x.block(0, 64), -1);
        due("block(0, -1)", x.block(0, -1), -1);
        due("block(MAX, 0)", x.block(Integer.MAX_VALUE, 0), -1);
        PackedPages y = twoPages();
        dueBlock(y, 0, 2, 2, 0, 8, 7, 132, 1, 0, 10, 134, 10);
    }

    private static void directoryOf() {
        PackedPages x = twoPages();
        int[] row = {2, 0, 0, 1, 60, 0};
        for (int k = 0; k < row.length; k++) due("directory(" + k + ")", x.directory(k), row[k]);
        due("directory(20)", x.directory(20), 0);
        due("directory(21)", x.directory(21), -1);
        due("directory(-1)", x.directory(-1), -1);
        due("directory(0), down", downStore().directory(0), 1);
    }

    private static void journalOf() {
        PackedPages x = twoPages();
        int[] places = {0, 1, 2, 3, 4, 67, 132, 133, 134, 135, 136};
        int[] row = {0, 2, 0, 0, x.block(0, 1), 1, 2, 0, 0, 1, 60};
        for (int i = 0; i < row.length; i++) due("journal(" + places[i] + ")", x.journal(places[i]), row[i]);
        for (int k = 0; k < 64; k++) {
            due("journal", x.journal(3 + k), x.block(0, k));
            due("journal", x.journal(68 + k), x.block(1, k));
        }
        due("journal(672)", x.journal(672), 0);
        due("journal(673)", x.journal(673), -1);
        due("journal(-1)", x.journal(-1), -1);
        x.fuse(1);
        x.compact();
        due("journal(1), down", x.journal(1), 2);
    }

    private static void counting() {
        PackedPages x = twoPages();
        x.erase(0);
        due("count(0)", x.count(0), 12);
        due("count(1)", x.count(1), 2);
        due("count(2)", x.count(2), 1);
        due("count(11)", x.count(11), 14);
        due("count(-1)", x.count(-1), -1);
        due("count(25)", x.count(25), -1);
        x.terms(9, 9);
        x.erase(0);
        x.recover();
        x.alter(10, 0, 7);
        x.end(0);
        x.group();
        x.fuse(0);
        x.erase(10);
        int[] told = {1, 1, 1, 1, 0, 1, 1};
        for (int i = 0; i < told.length; i++) due("count(" + (13 + i) + ")", x.count(13 + i), told[i]);
        for (int w = 0; w < 3; w++) due("count, down", x.count(w), -1);
        due("count(10)", x.count(10), 1);
        x.pack(9);
        x.erase(0);
        due("count(13)", x.count(13), 2);
        due("count(15)", x.count(15), 2);
        learning();
    }

    /** How padding comes and goes by tries. */
    private static void learning() {
        PackedPages x = new PackedPages();
        x.terms(1, 2);
        x.terms(2, 50);
        x.terms(3, 5);
        int key = 0;
        while (x.count(1) == 1 && key < 30) putRough(x, key++);
        due("one of two failed is not more than 50 of 100", x.count(3), 0);
        PackedPages y = new PackedPages();
        y.terms(1, 1);
        y.terms(2, 99);
        y.terms(3, 32);
        key = 0;
        while (y.count(1) == 1 && key < 30) putRough(y, key++);
        due("count(3)", y.count(3), 32);
        due("count(6)", y.count(6), 2);
        due("erase all in the log", y.compact() > 0 ? 1 : 0, 1);
        due("compact() tries not", y.count(6), 2);
        int at = y.page(0, 6);
        while (y.count(6) == 2 && at++ < 40) y.alter(0, 0, y.value(0, 2) ^ 1);
        due("three calm ones", y.count(3), 0);
        due("count(6)", y.count(6), 0);
        due("count(4)", y.count(4), 0);
    }

    private static void statusOf() {
        PackedPages x = new PackedPages();
        due("status()", x.status(), 0);
        x.erase(0);
        due("status()", x.status(), -2);
        x.feed(0, 0, 0, 0, 0);
        x.end(99);
        x.would(0);
        x.value(999, 0);
        x.count(99);
        due("status() stays", x.status(), -2);
        due("put", x.put(0), -1);
        due("status()", x.status(), -1);
        x.fuse(-1);
        due("status() behind fuse()", x.status(), 0);
        x.recover();
        due("status()", x.status(), -3);
        x.undo();
        due("status()", x.status(), -4);
        x.group();
        due("status()", x.status(), -6);
        x.fuse(0);
        x.compact();
        due("status()", x.status(), -7);
        x.fetch(0);
        due("status()", x.status(), -3);
        x.recover();
        due("status()", x.status(), 0);
        x.unpack(7);
        due("status()", x.status(), -1);
        x.pack(0);
        due("status()", x.status(), 0);
    }

    public static void main(String[] args) {
        Runnable[] promises = {PromiseTest::newObject, PromiseTest::terms, PromiseTest::feed, PromiseTest::end, PromiseTest::tape,
            PromiseTest::pack, PromiseTest::unpack, PromiseTest::flaw, PromiseTest::putting, PromiseTest::growing,
            PromiseTest::altering, PromiseTest::erasing, PromiseTest::grouping, PromiseTest::compacting, PromiseTest::fusing,
            PromiseTest::recovering, PromiseTest::writing, PromiseTest::fetching, PromiseTest::undoing, PromiseTest::valueOf,
            PromiseTest::nextKey, PromiseTest::pageOf, PromiseTest::packingOf, PromiseTest::entryOf, PromiseTest::behindSome,
            PromiseTest::wouldBe, PromiseTest::blockOf, PromiseTest::directoryOf, PromiseTest::journalOf, PromiseTest::counting,
            PromiseTest::statusOf};
        for (int i = 0; i < promises.length; i++) {
            about("promise " + (i + 1));
            promises[i].run();
        }
        finish(promises.length + " promises");
    }
}
