/** Each sentence of promises 1 to 31 that names a boundary case: a test of its own. */
public final class PromiseBoundaryTest extends Stores {
    public static void main(String[] args) {
        tapes();
        packing();
        edits();
        groups();
        fuses();
        undoing();
        looking();
        pages();
        counts();
        finish("promises 1 .. 31");
    }

    // ---- 1 .. 5

    private static void tapes() {
        sentence("One page, no record.", PromiseBoundaryTest::newObject);
        sentence("A TERM: what it was. -1.", PromiseBoundaryTest::whatItWas);
        sentence("Twenty bytes come behind the TAPE, four of each number, the highest first: how many it has.", PromiseBoundaryTest::twentyBytes);
        sentence("NONE, if there would be more than 400.", PromiseBoundaryTest::feedTooMuch);
        sentence("The TAPE has its first n bytes alone: n.", PromiseBoundaryTest::firstBytes);
        sentence("NONE, if it has not so many, or n is below 0.", PromiseBoundaryTest::endTooFar);
        sentence("The TAPE's BYTE i. NONE.", PromiseBoundaryTest::bytesOfTheTape);
    }

    private static void newObject() {
        PackedPages x = new PackedPages();
        dueCounts(x, 0, 0, 1, 0, 0, 0, 0, 0, 0, 0, -1, 0, 0, 0, 0, 0, 0, 0, 0, 0, 0, 4, 8, 25, 8, 2);
        PackedPages y = new PackedPages();
        put(x, 1, 1);
        due("objects have nothing in common", y.count(0), 0);
        due("block(0, 2)", y.block(0, 2), 0);
    }

    private static void whatItWas() {
        PackedPages x = new PackedPages();
        due("terms(0, 5)", x.terms(0, 5), 4);
        due("terms(0, 5), as it is", x.terms(0, 5), 5);
        due("terms(-1, 1)", x.terms(-1, 1), -1);
        due("terms(5, 1)", x.terms(5, 1), -1);
        due("terms(MIN, 1)", x.terms(Integer.MIN_VALUE, 1), -1);
        due("terms(MAX, 1)", x.terms(Integer.MAX_VALUE, 1), -1);
        due("terms(1, 0)", x.terms(1, 0), -1);
        due("terms(2, 0): what may be 0", x.terms(2, 0), 25);
        due("terms(2, 101)", x.terms(2, 101), -1);
        due("count(13)", x.count(13), 6);
        dueCounts(x, 20, 5, 8, 0, 8, 2);
    }

    private static void twentyBytes() {
        PackedPages x = new PackedPages();
        due("feed", x.feed(0x00FF0100, Integer.MIN_VALUE, Integer.MAX_VALUE, -1, 0), 20);
        dueTape(x, 0, 255, 1, 0, 128, 0, 0, 0, 127, 255, 255, 255, 255, 255, 255, 255, 0, 0, 0, 0);
        x.end(1);
        due("feed behind one", x.feed(0x01020304, 0, 0, 0, 0x05060708), 21);
        dueTape(x, 0, 1, 2, 3, 4, 0, 0, 0, 0, 0, 0, 0, 0, 0, 0, 0, 0, 5, 6, 7, 8);
    }

    private static void feedTooMuch() {
        PackedPages x = new PackedPages();
        for (int i = 0; i < 20; i++) x.feed(i, i, i, i, i);
        due("400 and 20", x.feed(0, 0, 0, 0, 0), -1);
        due("count(12)", x.count(12), 400);
        x.end(381);
        due("381 and 20", x.feed(9, 9, 9, 9, 9), -1);
        due("count(12)", x.count(12), 381);
        due("tape(381)", x.tape(381), -1);
        x.end(380);
        due("380 and 20", x.feed(9, 9, 9, 9, 9), 400);
        due("tape(399)", x.tape(399), 9);
        due("it is not REFUSED", x.status(), 0);
        due("count(13)", x.count(13), 0);
    }

    private static void firstBytes() {
        PackedPages x = new PackedPages();
        due("end(0) of none", x.end(0), 0);
        lay(x, 1, 2, 3);
        due("end(3), all", x.end(3), 3);
        dueTape(x, 1, 2, 3);
        due("end(2)", x.end(2), 2);
        dueTape(x, 1, 2);
        due("tape(2)", x.tape(2), -1);
        due("end(0)", x.end(0), 0);
        due("tape(0)", x.tape(0), -1);
    }

    private static void endTooFar() {
        PackedPages x = new PackedPages();
        due("end(1) of none", x.end(1), -1);
        lay(x, 1, 2, 3);
        due("end(4)", x.end(4), -1);
        due("end(-1)", x.end(-1), -1);
        due("end(MIN)", x.end(Integer.MIN_VALUE), -1);
        due("end(MAX)", x.end(Integer.MAX_VALUE), -1);
        dueTape(x, 1, 2, 3);
        due("it is not REFUSED", x.count(13), 0);
        due("status()", x.status(), 0);
    }

    private static void bytesOfTheTape() {
        PackedPages x = new PackedPages();
        due("tape(0) of none", x.tape(0), -1);
        lay(x, 0, 255);
        due("tape(0)", x.tape(0), 0);
        due("tape(1)", x.tape(1), 255);
        due("tape(2)", x.tape(2), -1);
        due("tape(-1)", x.tape(-1), -1);
        due("tape(MIN)", x.tape(Integer.MIN_VALUE), -1);
        due("tape(MAX)", x.tape(Integer.MAX_VALUE), -1);
        lay(x, roughRow(400));
        due("tape(399)", x.tape(399), roughRow(400)[399]);
        due("tape(400)", x.tape(400), -1);
    }

    // ---- 6 .. 8

    private static void packing() {
        sentence("The TAPE becomes what it is PACKED by a FILTER (NONE: by which it has the fewest, the lowest): how many BYTES.", PromiseBoundaryTest::packByAny);
        sentence("-1; -5 it would have more than 400 (it stays).", PromiseBoundaryTest::packTooLong);
        sentence("The TAPE becomes what it is UNPACKED by a FILTER: how many BYTES.", PromiseBoundaryTest::unpack);
        sentence("-1; -6 (a FLAW; it stays).", PromiseBoundaryTest::unpackFlaws);
        sentence("The place of the FLAW of the latest unpack() that was not REFUSED by -1", PromiseBoundaryTest::flawOfUnpack);
        sentence("the place of the first BYTE of the ENTRY that could not be read or could not be (0, if the TAPE was empty) of the latest group() that was not REFUSED by -3",
                PromiseBoundaryTest::flawOfGroup);
        sentence("The latest of these; NONE without one, ahead of any.", PromiseBoundaryTest::latestFlaw);
    }

    private static void duePack(int filter, int[] row, int... want) {
        PackedPages x = new PackedPages();
        lay(x, row);
        due("pack(" + filter + ")", x.pack(filter), want.length);
        dueTape(x, want);
        due("status()", x.status(), 0);
    }

    private static int[] row(int... bytes) { return bytes; }

    private static void packByAny() {
        for (int filter = -1; filter < 4; filter++) duePack(filter, row());
        duePack(-1, row(1, 2), 1, 1, 2);
        duePack(-1, row(128, 0, 128, 0, 128), 0, 128, 129, 1);
        duePack(-1, row(128, 64, 192, 128, 0), 1, 128, 192, 128, 2);
        duePack(-1, row(192, 128, 192, 64, 128, 192, 128), 3, 192, 64, 64, 128, 128, 4);
        duePack(-1, row(131, 129, 131, 129, 131), 1, 131, 129, 128, 2);
        duePack(-1, row(9, 1, 10, 2, 20, 3, 30, 4, 40), 4, 9, 1, 1, 1, 10, 129, 2);
        PackedPages x = new PackedPages();
        lay(x, 9, 1, 10, 2, 20, 3, 30, 4, 40);
        due("pack(-1), by 3", x.pack(-1), 8);
        lay(x, 1, 2, 9);
        due("pack(-1), by 0", x.pack(-1), 4);
        dueTape(x, 2, 1, 2, 9);
    }

    private static void packTooLong() {
        PackedPages x = new PackedPages();
        lay(x, roughRow(397));
        due("pack(0): 401", x.pack(0), -5);
        dueTape(x, roughRow(397));
        due("pack(-1): 401", x.pack(-1), -5);
        dueTape(x, roughRow(397));
        due("count(17)", x.count(17), 2);
        due("pack(4)", x.pack(4), -1);
        due("pack(-2)", x.pack(-2), -1);
        due("pack(MIN)", x.pack(Integer.MIN_VALUE), -1);
        due("pack(MAX)", x.pack(Integer.MAX_VALUE), -1);
        x.end(396);
        due("pack(3): 400", x.pack(3), 400);
        due("status()", x.status(), 0);
        int[] sums = roughRow(400);
        for (int i = 0; i < 200; i++) sums[i] = 3 * i & 255;
        lay(x, sums);
        due("pack(0): too long", x.pack(0), -5);
        due("pack(-1): by another filter it is not", x.pack(-1), x.count(12));
        due("status()", x.status(), 0);
        due("shorter than 400", x.count(12) < 400 ? 1 : 0, 1);
    }

    private static void unpack() {
        PackedPages x = new PackedPages();
        for (int filter = 0; filter < 4; filter++) {
            x.end(0);
            due("unpack(" + filter + ") of none", x.unpack(filter), 0);
            int[] plain = roughRow(300);
            lay(x, plain);
            x.pack(filter);
            due("unpack(" + filter + ")", x.unpack(filter), 300);
            dueTape(x, plain);
        }
        lay(x, 0, 7, 255, 1, 255, 1, 255, 1, 134, 1);
        due("400", x.unpack(0), 400);
        int[] pairs = new int[400];
        for (int i = 0; i < 200; i++) pairs[2 * i + 1] = i;
        lay(x, pairs);
        due("as many rows as there can be", x.unpack(0), 200);
        for (int i = 0; i < 200; i++) due("tape(" + i + ")", x.tape(i), i);
    }

    private static void unpackFlaws() {
        PackedPages x = new PackedPages();
        lay(x, 0, 7, 128, 2);
        for (int filter = 0; filter < 4; filter++) {
            due("unpack", x.unpack(filter), -6);
            dueTape(x, 0, 7, 128, 2);
        }
        due("count(18)", x.count(18), 4);
        for (int filter : row(-1, 4, -2, Integer.MIN_VALUE, Integer.MAX_VALUE)) due("unpack(" + filter + ")", x.unpack(filter), -1);
        due("count(13)", x.count(13), 5);
        dueTape(x, 0, 7, 128, 2);
    }

    private static void flawOfUnpack() {
        PackedPages x = new PackedPages();
        lay(x, 0, 7, 128, 0);
        x.unpack(0);
        due("flaw()", x.flaw(), 3);
        x.unpack(4);
        x.unpack(-1);
        due("behind -1", x.flaw(), 3);
        x.end(3);
        x.unpack(3);
        due("flaw()", x.flaw(), 3);
        x.end(1);
        x.unpack(3);
        due("flaw()", x.flaw(), 1);
        x.end(0);
        x.unpack(0);
        due("without one", x.flaw(), -1);
    }

    private static void flawOfGroup() {
        PackedPages x = new PackedPages();
        due("empty", group(x), -6);
        due("flaw()", x.flaw(), 0);
        due("kind 0 at the start", group(x, 0), -6);
        due("flaw()", x.flaw(), 0);
        due("not whole", group(x, 0x10, 1, 0x12, 2, 0), -6);
        due("flaw()", x.flaw(), 2);
        due("-2", group(x, 0x11, 1, 0, 0x20, 2), -2);
        due("flaw()", x.flaw(), 3);
        due("-4", group(x, 0x11, 1, 0, 0x11, 1, 0), -4);
        due("flaw()", x.flaw(), 3);
        PackedPages y = tenPages();
        due("-5", group(y, joined(row(0x10, 7), roughEntries(1))), -5);
        due("flaw()", y.flaw(), 2);
        due("done", group(y, 0x10, 7), 1);
        due("flaw()", y.flaw(), -1);
        y.fuse(0);
        due("-7", group(y, 0x10, 9), -7);
        due("flaw()", y.flaw(), -1);
        lay(y, 128);
        y.unpack(0);
        due("flaw()", y.flaw(), 1);
        due("-3", y.group(), -3);
        due("flaw()", y.flaw(), 1);
    }

    private static void latestFlaw() {
        PackedPages x = new PackedPages();
        due("ahead of any", x.flaw(), -1);
        lay(x, 3, 1);
        x.unpack(0);
        due("flaw()", x.flaw(), 2);
        x.group();
        due("the group's", x.flaw(), 0);
        lay(x, 3, 1);
        x.unpack(0);
        due("unpack's", x.flaw(), 2);
        lay(x, 0x10, 1);
        x.group();
        due("without one", x.flaw(), -1);
        lay(x, 3, 1);
        x.unpack(0);
        lay(x, 0, 1);
        x.unpack(0);
        due("without one", x.flaw(), -1);
        lay(x, 3, 1);
        x.unpack(0);
        x.pack(0);
        x.put(300);
        x.undo();
        x.would(0);
        due("others leave it", x.flaw(), 2);
    }

    // ---- 9 .. 12

    private static void edits() {
        sentence("PUT the TAPE's bytes as the VALUE of a KEY, the TAPE is empty then (not, if REFUSED)", PromiseBoundaryTest::tapeBehindPut);
        sentence("0 LOGGED, 1 SPREAD as one PAGE, 10 and how many PAGES more.", PromiseBoundaryTest::whatPutTells);
        sentence("-1 (the TAPE has more than 8, too); -3; -4; -5; -7.", PromiseBoundaryTest::whatRefusesPut);
        sentence("GROW by the TAPE's bytes, as for put().", PromiseBoundaryTest::whatGrowTells);
        sentence("-1 (the TAPE has none, more than 8, too); -2; -3; -4; -5; -7.", PromiseBoundaryTest::whatRefusesGrow);
        sentence("ALTER: as for put().", PromiseBoundaryTest::whatAlterTells);
        sentence("-1 (n 0 .. 7, a BYTE); -2; -3; -4; -5; -7.", PromiseBoundaryTest::whatRefusesAlter);
        sentence("ERASE: as for put(); 2 the PAGE GOES.", PromiseBoundaryTest::whatEraseTells);
        sentence("-1; -2; -3; -5; -7.", PromiseBoundaryTest::whatRefusesErase);
    }

    private static void tapeBehindPut() {
        PackedPages x = new PackedPages();
        put(x, 1, 1, 2);
        dueTape(x);
        due("-4", put(x, 1, 1, 2), -4);
        dueTape(x, 1, 2);
        due("-1", x.put(256), -1);
        dueTape(x, 1, 2);
        x.fuse(0);
        due("-7, which is not REFUSED", x.put(2), -7);
        dueTape(x);
        lay(x, 3);
        due("-3", x.put(2), -3);
        dueTape(x, 3);
        PackedPages y = tenPages();
        due("-5", putRough(y, 1), -5);
        dueTape(y, rough(1));
    }

    private static void whatPutTells() {
        PackedPages x = new PackedPages();
        x.terms(0, 16);
        for (int key = 0; key < 4; key++) due("put", putSmooth(x, key), 0);
        due("put, spread", putSmooth(x, 4), 1);
        due("put, two pages", putSmooth(twelveSmooth(), 12), 11);
        PackedPages y = padded(32);
        due("put, four pages", put(y, 12), 13);
        y = padded(32);
        y.terms(1, 1);
        due("put, three pages", put(y, 12), 12);
    }

    private static PackedPages twelveSmooth() {
        PackedPages x = new PackedPages();
        for (int key = 0; key < 12; key++) putSmooth(x, key);
        due("count(1)", x.count(1), 1);
        return x;
    }

    private static void whatRefusesPut() {
        PackedPages x = new PackedPages();
        due("8", put(x, 1, 1, 2, 3, 4, 5, 6, 7, 8), 0);
        due("9", put(x, 1, 1, 2, 3, 4, 5, 6, 7, 8, 9), -1);
        due("400", put(x, 1, roughRow(400)), -1);
        due("count(12)", x.count(12), 400);
        due("0", put(x, 2), 0);
        due("key -1", put(x, -1), -1);
        due("key 256", put(x, 256), -1);
        due("-4", put(x, 2), -4);
        due("-5", putRough(tenPages(), 1), -5);
        x.fuse(1);
        due("-7", put(x, 3), -7);
        due("-3", put(x, 2), -3);
        dueCounts(x, 13, 4, 0, 1, 1, 0, 0, 1);
    }

    private static void whatGrowTells() {
        PackedPages x = new PackedPages();
        put(x, 0, 1);
        due("grow", grow(x, 0, 2), 0);
        dueTape(x);
        due("-4", grow(x, 0, 1, 2, 3, 4, 5, 6, 7), -4);
        due("count(12)", x.count(12), 7);
        PackedPages y = oneTryAnAlter();
        due("grow, spread", grow(y, 4, 200), 1);
        dueTape(y);
        PackedPages w = new PackedPages();
        w.terms(0, 16);
        for (int key = 0; key < 4; key++) putRough(w, key);
        put(w, 4);
        due("grow, two pages", grow(w, 4, rough(4)), 11);
        w.fuse(0);
        put(w, 9);
        w.recover();
        put(w, 9, 1);
        w.fuse(0);
        due("-7", grow(w, 9, 2), -7);
        dueTape(w);
    }

    private static void whatRefusesGrow() {
        PackedPages x = new PackedPages();
        put(x, 1);
        due("none", grow(x, 1), -1);
        due("9", grow(x, 1, 1, 2, 3, 4, 5, 6, 7, 8, 9), -1);
        due("9, no record", grow(x, 2, 1, 2, 3, 4, 5, 6, 7, 8, 9), -1);
        due("8", grow(x, 1, 1, 2, 3, 4, 5, 6, 7, 8), 0);
        due("-2", grow(x, 2, 1), -2);
        due("-4", grow(x, 1, 1), -4);
        due("key 256", grow(x, 256, 1), -1);
        due("-5", grow(tenPagesNoRoom(), 2, 1), -5);
        put(x, 3);
        x.fuse(2);
        due("-7", grow(x, 3, 1), -7);
        due("-3", grow(x, 4, 1), -3);
        due("-1 ahead of -3", grow(x, 3), -1);
        dueCounts(x, 13, 5, 1, 1, 1, 0, 0, 1);
    }

    private static void whatAlterTells() {
        PackedPages x = new PackedPages();
        put(x, 0, 1, 2);
        due("alter", x.alter(0, 1, 3), 0);
        due("alter, spread", oneTryAnAlter().alter(4, 0, 200), 1);
        PackedPages y = tenPagesNoRoom();
        for (int key = 216; key < 240; key += 6) y.erase(key);
        due("alter, two pages", y.alter(0, 0, rough(0)[0] ^ 1), 11);
        due("count(1)", y.count(1), 10);
    }

    private static void whatRefusesAlter() {
        PackedPages x = new PackedPages();
        put(x, 1, 1, 2, 3, 4, 5, 6, 7, 8);
        for (int n : row(-1, 8, Integer.MIN_VALUE, Integer.MAX_VALUE)) due("n " + n, x.alter(1, n, 0), -1);
        for (int b : row(-1, 256, Integer.MIN_VALUE, Integer.MAX_VALUE)) due("byte " + b, x.alter(1, 0, b), -1);
        due("n 0, byte 0", x.alter(1, 0, 0), 0);
        due("n 7, byte 255", x.alter(1, 7, 255), 0);
        due("-2", x.alter(2, 0, 0), -2);
        due("-4", x.alter(1, 0, 0), -4);
        due("-5", tenPagesNoRoom().alter(0, 0, rough(0)[0] ^ 1), -5);
        x.fuse(2);
        due("-7", x.alter(1, 0, 9), -7);
        due("-3", x.alter(2, 0, 9), -3);
        due("-1 ahead of -3", x.alter(2, 0, 999), -1);
        dueCounts(x, 13, 9, 1, 1, 1, 0, 0, 1);
    }

    private static void whatEraseTells() {
        PackedPages x = new PackedPages();
        put(x, 1);
        due("erase", x.erase(1), 0);
        PackedPages y = new PackedPages();
        y.terms(0, 0);
        for (int key = 0; key < 6; key++) putRough(y, key);
        y.erase(5);
        due("erase, spread", y.erase(4), 1);
        PackedPages z = tenPagesNoRoom();
        for (int key = 216; key < 234; key += 6) z.erase(key);
        due("the page goes", z.erase(234), 2);
        due("erase, two pages", z.erase(0), 11);
        due("count(1)", z.count(1), 10);
    }

    private static void whatRefusesErase() {
        PackedPages x = new PackedPages();
        put(x, 1);
        due("key -1", x.erase(-1), -1);
        due("key 256", x.erase(256), -1);
        due("-2", x.erase(0), -2);
        due("-5", tenPagesNoRoom().erase(0), -5);
        x.fuse(1);
        due("-7", x.erase(1), -7);
        due("-3", x.erase(0), -3);
        due("-1 ahead of -3", x.erase(256), -1);
        x.recover();
        due("it was not done", x.value(1, 0), 0);
        dueCounts(x, 13, 3, 1, 1, 0, 0, 0, 1);
    }

    // ---- 13, 14

    private static void groups() {
        sentence("A GROUP, the TAPE is empty then (but for -3): how many were done.", PromiseBoundaryTest::tapeBehindGroup);
        sentence("-6 (the TAPE is empty; an ENTRY that is none or not whole)", PromiseBoundaryTest::groupUnread);
        sentence("-2, -4, -5 (of the first ENTRY that can't be: the first of these); -7.", PromiseBoundaryTest::firstEntryThatCantBe);
        sentence("COMPACT: how many PAGES there are then. -3; -5; -7.", PromiseBoundaryTest::whatCompactTells);
    }

    private static void tapeBehindGroup() {
        PackedPages x = new PackedPages();
        due("one", group(x, 0x10, 1), 1);
        dueTape(x);
        due("-2", group(x, 0x20, 9), -2);
        dueTape(x);
        due("-4", group(x, 0x10, 1), -4);
        dueTape(x);
        due("-6", group(x, 0x10), -6);
        dueTape(x);
        int[] most = new int[400];
        for (int i = 0; i < 200; i++) {
            most[2 * i] = i % 2 == 0 ? 0x20 : 0x10;
            most[2 * i + 1] = 1;
        }
        due("as many as there can be", group(x, most), 200);
        dueTape(x);
        dueValue(x, 1);
        x.fuse(3);
        due("-7", group(x, 0x20, 1), -7);
        dueTape(x);
        due("-3", group(x, 0x20, 1), -3);
        dueTape(x, 0x20, 1);
        PackedPages y = tenPages();
        due("-5", group(y, roughEntries(1)), -5);
        dueTape(y);
    }

    private static void groupUnread() {
        PackedPages x = new PackedPages();
        due("empty", x.group(), -6);
        due("a 0", group(x, 0), -6);
        due("a 0 behind an entry", group(x, 0x10, 1, 0), -6);
        due("not whole", group(x, 0x18, 1, 1, 2, 3, 4, 5, 6, 7), -6);
        due("whole", group(x, 0x18, 1, 1, 2, 3, 4, 5, 6, 7, 8), 1);
        due("not whole at the tape's end", group(x, joined(repeated(0x10, 398), row(0x20))), -6);
        due("count(18)", x.count(18), 5);
        due("count(0)", x.count(0), 1);
    }

    private static void firstEntryThatCantBe() {
        PackedPages x = new PackedPages();
        put(x, 1, 1);
        due("-4, then -2", group(x, 0x11, 1, 1, 0x20, 2), -4);
        due("-2, then -4", group(x, 0x20, 2, 0x11, 1, 1), -2);
        PackedPages y = tenPages();
        due("-5, then -2", group(y, joined(roughEntries(1), row(0x20, 2))), -5);
        due("-2, then -5", group(y, joined(row(0x20, 2), roughEntries(1))), -2);
        due("-4, then -5", group(y, joined(roughEntries(6), roughEntries(1))), -4);
        due("room by the ones ahead", group(y, joined(row(0x20, 0, 0x20, 6), roughEntries(1))), 3);
        x.fuse(137);
        due("-7", group(x, 0x10, 2), -7);
        due("status()", x.status(), -7);
        due("written()", x.written(), 137);
    }

    private static void whatCompactTells() {
        PackedPages x = new PackedPages();
        due("no record", x.compact(), 1);
        due("ten", tenPages().compact(), 10);
        due("eleven", tenPagesNoRoom().compact(), -5);
        x.fuse(137);
        due("-7", x.compact(), -7);
        due("-3", x.compact(), -3);
        dueCounts(x, 13, 0, 0, 1, 0, 0, 0, 1);
    }

    // ---- 15 .. 18

    private static void fuses() {
        sentence("The FUSE is n BYTES (NONE: none): what it was (NONE, too).", PromiseBoundaryTest::whatFuseTells);
        sentence("-1 (n below NONE: REFUSED).", PromiseBoundaryTest::whatRefusesFuse);
        sentence("RECOVER: how many BYTES were WRITTEN. -3 the store is not DOWN; -7.", PromiseBoundaryTest::whatRecoverTells);
        sentence("that was not REFUSED WROTE (those ahead of a -7, too). 0 ahead of any.", PromiseBoundaryTest::written);
        sentence("the VALUE of a KEY is on the TAPE in place of all there was: how many BYTES.", PromiseBoundaryTest::fetched);
        sentence("-1; -2 (the TAPE stays); -3.", PromiseBoundaryTest::whatRefusesFetch);
    }

    private static void whatFuseTells() {
        PackedPages x = new PackedPages();
        due("NONE at first", x.fuse(0), -1);
        due("status()", x.status(), 0);
        due("count(13), NONE is no refusal", x.count(13), 0);
        due("fuse(-1)", x.fuse(-1), 0);
        due("fuse(MAX)", x.fuse(Integer.MAX_VALUE), -1);
        put(x, 1);
        due("fuse(7)", x.fuse(7), Integer.MAX_VALUE - 2);
        due("count(9)", x.count(9), 7);
        PackedPages down = downStore();
        due("fuse(3), down", down.fuse(3), -1);
        due("count(9)", down.count(9), 3);
    }

    private static void whatRefusesFuse() {
        PackedPages x = new PackedPages();
        x.fuse(5);
        due("fuse(-2)", x.fuse(-2), -1);
        due("status()", x.status(), -1);
        due("fuse(MIN)", x.fuse(Integer.MIN_VALUE), -1);
        due("count(13)", x.count(13), 2);
        due("count(9)", x.count(9), 5);
        due("fuse(-1), the lowest", x.fuse(-1), 5);
        due("status()", x.status(), 0);
    }

    private static void whatRecoverTells() {
        PackedPages x = new PackedPages();
        due("not down", x.recover(), -3);
        due("count(15)", x.count(15), 1);
        x.fuse(0);
        put(x, 1);
        due("none", x.recover(), 0);
        due("status()", x.status(), 0);
        x.fuse(1);
        put(x, 1);
        due("one", x.recover(), 1);
        x.fuse(69);
        x.compact();
        due("journal(0)", x.journal(0), 0);
        due("ahead of MARK 1", x.recover(), 0);
        x.fuse(70);
        x.compact();
        due("journal(0)", x.journal(0), 1);
        x.fuse(67);
        due("one too few", x.recover(), -7);
        due("count(19)", x.count(19), 5);
        x.fuse(68);
        due("all", x.recover(), 68);
        x.fuse(137);
        x.compact();
        due("MARK 0 alone was missing", x.recover(), 68);
    }

    private static void written() {
        PackedPages x = new PackedPages();
        due("ahead of any", x.written(), 0);
        x.erase(1);
        x.terms(0, 4);
        x.fetch(1);
        due("ahead of any that was not REFUSED", x.written(), 0);
        put(x, 1, 1, 2, 3, 4, 5, 6, 7, 8);
        due("put", x.written(), 10);
        put(x, 1, 1, 2, 3, 4, 5, 6, 7, 8);
        x.grow(999);
        x.alter(1, 0, 1);
        x.group();
        x.recover();
        due("behind refusals", x.written(), 10);
        x.alter(1, 0, 2);
        due("alter", x.written(), 3);
        x.fetch(1);
        x.pack(0);
        x.undo();
        due("others", x.written(), 3);
        x.erase(1);
        due("erase", x.written(), 2);
        put(x, 1);
        grow(x, 1, 1, 2, 3);
        due("grow", x.written(), 5);
        group(x, 0x20, 1);
        due("group", x.written(), 138);
        x.fuse(0);
        x.compact();
        due("-7, none", x.written(), 0);
        x.recover();
        due("recover, none", x.written(), 0);
        x.fuse(99);
        x.compact();
        due("-7", x.written(), 99);
        x.put(1);
        due("-3", x.written(), 99);
        x.fuse(20);
        x.recover();
        due("recover, -7", x.written(), 20);
        x.recover();
        due("recover", x.written(), 68);
    }

    private static void fetched() {
        PackedPages x = new PackedPages();
        put(x, 1, 0, 255);
        put(x, 2);
        put(x, 3, 1, 2, 3, 4, 5, 6, 7, 8);
        lay(x, roughRow(400));
        due("two", x.fetch(1), 2);
        dueTape(x, 0, 255);
        due("tape(2)", x.tape(2), -1);
        due("none", x.fetch(2), 0);
        dueTape(x);
        due("eight", x.fetch(3), 8);
        dueTape(x, 1, 2, 3, 4, 5, 6, 7, 8);
        PackedPages y = longestLog();
        due("the last of the longest log", y.fetch(230), 0);
        due("fetch(231)", y.fetch(231), -2);
        PackedPages z = tenPages();
        lay(z, 0x11, 0, 5);
        due("would(0)", z.would(0), 1);
        due("fetch(0), what would() does is not done", z.fetch(0), 8);
    }

    private static void whatRefusesFetch() {
        PackedPages x = new PackedPages();
        put(x, 1, 5);
        lay(x, 9, 9);
        due("key -1", x.fetch(-1), -1);
        due("key 256", x.fetch(256), -1);
        dueTape(x, 9, 9);
        due("-2", x.fetch(2), -2);
        dueTape(x, 9, 9);
        x.fuse(0);
        x.erase(1);
        due("-3", x.fetch(1), -3);
        due("-3 ahead of -2", x.fetch(2), -3);
        due("-1 ahead of -3", x.fetch(256), -1);
        dueTape(x, 9, 9);
        dueCounts(x, 13, 3, 1, 2, 0, 0, 0, 1);
    }

    // ---- 19

    private static void undoing() {
        sentence("The latest put() (told as 0), grow() (1), alter() (2), erase() (3), group() (4), compact() (5), recover() (6) that was not REFUSED", PromiseBoundaryTest::actsUndone);
        sentence("(those that told -7, too; 16 are kept)", PromiseBoundaryTest::sixteenAreKept);
        sentence("All on the DISK, PADDING, TRIES, FAILED, CALM, whether DOWN are as they were", PromiseBoundaryTest::asTheyWere);
        sentence("(the FUSE, TERMS, the TAPE, what was UNPACKED are not)", PromiseBoundaryTest::whatIsNotUndone);
        sentence("-4 there is none.", PromiseBoundaryTest::noneToUndo);
    }

    private static void actsUndone() {
        PackedPages x = new PackedPages();
        put(x, 1, 1);
        grow(x, 1, 2);
        x.alter(1, 0, 3);
        x.erase(1);
        group(x, 0x10, 1);
        x.compact();
        x.fuse(0);
        x.erase(1);
        x.recover();
        x.erase(99);
        put(x, 1);
        x.fetch(1);
        x.terms(0, 4);
        due("count(11), what is REFUSED is not kept", x.count(11), 8);
        for (int act : row(6, 3, 5, 4, 3, 2, 1, 0)) due("undo()", x.undo(), act);
        due("undo()", x.undo(), -4);
        due("count(11)", x.count(11), 0);
    }

    private static void sixteenAreKept() {
        for (int acts : row(15, 16, 17, 40)) {
            PackedPages x = new PackedPages();
            for (int i = 0; i < acts; i++) due("put", put(x, 1, i) >= 0 ? 1 : 0, 1);
            int kept = Math.min(16, acts);
            due("count(11)", x.count(11), kept);
            for (int i = 1; i <= kept; i++) {
                due("undo()", x.undo(), 0);
                due("value(1, 2)", x.value(1, 2), i < acts ? acts - 1 - i : -1);
            }
            due("undo()", x.undo(), -4);
        }
        PackedPages x = new PackedPages();
        for (int i = 0; i < 20; i++) put(x, 1, i);
        for (int i = 0; i < 5; i++) x.undo();
        for (int i = 0; i < 9; i++) put(x, 1, 100 + i);
        due("count(11), behind some that were undone", x.count(11), 16);
        for (int i = 0; i < 16; i++) x.undo();
        dueValue(x, 1, 7);
        x.fuse(0);
        due("-7", put(x, 2), -7);
        due("count(11)", x.count(11), 1);
        x.fuse(0);
        due("recover(), nothing to write", x.recover(), 0);
        x.fuse(1);
        put(x, 2);
        x.fuse(0);
        due("recover(), -7", x.recover(), -7);
        due("count(11)", x.count(11), 4);
        for (int act : row(6, 0, 6, 0)) due("undo()", x.undo(), act);
    }

    private static void asTheyWere() {
        PackedPages x = oneTryAnAlter();
        x.terms(1, 3);
        x.terms(2, 0);
        tryOnce(x);
        int[] disk = disk(x);
        dueCounts(x, 3, 0, 1, 0, 0);
        due("put", putRough(x, 9), 11);
        dueCounts(x, 3, 8, 1, 0, 0);
        due("undo()", x.undo(), 0);
        dueDisk("behind undo()", x, disk);
        dueCounts(x, 3, 0, 1, 0, 0);
        x.fuse(200);
        due("put, cut off", putRough(x, 9), -7);
        int[] cut = disk(x);
        due("recover()", x.recover() > 0 ? 1 : 0, 1);
        due("undo(), recover()", x.undo(), 6);
        due("down as it was", x.count(10), 1);
        dueDisk("behind undo()", x, cut);
        dueCounts(x, 3, 8, 1, 0, 0);
        due("undo(), down", x.undo(), 0);
        due("not down, as it was", x.count(10), 0);
        dueDisk("behind undo()", x, disk);
        dueCounts(x, 3, 0, 1, 0, 0);
        due("compact()", x.compact(), 1);
        due("undo()", x.undo(), 5);
        dueDisk("behind undo(), the journal too", x, disk);
        downTwice();
    }

    /** Undone back to where it was down, and recovered another time: what was learned then is what counts. */
    private static void downTwice() {
        PackedPages x = oneTryAnAlter();
        x.terms(1, 16);
        tryOnce(x);
        x.fuse(0);
        due("alter, cut off", tryOnce(x), -7);
        dueCounts(x, 4, 2, 0, 0);
        x.recover();
        tryOnce(x);
        dueCounts(x, 4, 3, 0, 0);
        due("undo()", x.undo(), 2);
        due("undo()", x.undo(), 6);
        dueCounts(x, 4, 2, 0, 0);
        due("recover()", x.recover(), 0);
        dueCounts(x, 4, 2, 0, 0);
        due("undo()", x.undo(), 6);
        dueCounts(x, 4, 2, 0, 0);
        due("undo()", x.undo(), 2);
        dueCounts(x, 4, 1, 0, 0);
        due("compact()", x.compact(), 1);
        dueCounts(x, 4, 1, 0, 0);
    }

    private static void whatIsNotUndone() {
        PackedPages x = new PackedPages();
        put(x, 1, 1);
        x.fuse(50);
        x.terms(0, 9);
        x.terms(4, 3);
        lay(x, 5, 6, 7);
        int unpacked = x.count(8);
        due("undo()", x.undo(), 0);
        due("count(9)", x.count(9), 50);
        due("count(20)", x.count(20), 9);
        due("count(24)", x.count(24), 3);
        dueTape(x, 5, 6, 7);
        due("count(8)", x.count(8), unpacked);
        due("written()", x.written(), 3);
        put(x, 1, 1);
        due("count(9), what was written is not given back", x.count(9), 47);
        x.undo();
        due("count(9)", x.count(9), 47);
        x.fuse(0);
        put(x, 1);
        x.undo();
        due("count(9), NONE stays", x.count(9), -1);
        lay(x, 9);
        x.put(7);
        x.undo();
        dueTape(x);
    }

    private static void noneToUndo() {
        PackedPages x = new PackedPages();
        due("undo()", x.undo(), -4);
        due("status()", x.status(), -4);
        due("count(16)", x.count(16), 1);
        put(x, 1);
        x.undo();
        due("undo(), an undo() is not undone", x.undo(), -4);
        due("count(11)", x.count(11), 0);
    }

    // ---- 20, 21, 25, 26

    private static void looking() {
        sentence("On paper, of a KEY how many BYTES its VALUE has (what 0), the number of the PAGE for it (1; without a RECORD, too), BYTE k (2 + k).", PromiseBoundaryTest::valueOf);
        sentence("NONE (there is no RECORD; none; DOWN).", PromiseBoundaryTest::noValue);
        sentence("The lowest KEY from a KEY on (0 .. 255) of which there is a RECORD.", PromiseBoundaryTest::nextOf);
        sentence("NONE (there is none; DOWN; others).", PromiseBoundaryTest::noNext);
        sentence("were only the first j ENTRIES of its LOG done (all, if j is as many): how many RECORDS (key NONE), how many BYTES the VALUE of a KEY has.", PromiseBoundaryTest::behindSome);
        sentence("NONE (no such PAGE, so many ENTRIES, RECORD in it; DOWN).", PromiseBoundaryTest::behindNone);
        sentence("What the TAPE would do as a group() now with a FUSE of NONE", PromiseBoundaryTest::wouldWithoutFuse);
        sentence("what that would tell (what 0; not -3), how many BYTES would be WRITTEN (1; 0, if REFUSED), PADDING then (2), PAGES then (3).", PromiseBoundaryTest::would);
        sentence("NONE (others; DOWN: for all).", PromiseBoundaryTest::wouldNot);
    }

    private static void valueOf() {
        PackedPages x = tenPages();
        int[] held = held(x);
        due("value(24, 0)", x.value(24, 0), 8);
        due("value(24, 1)", x.value(24, 1), 1);
        for (int k = 0; k < 8; k++) due("value(24, " + (2 + k) + ")", x.value(24, 2 + k), rough(24)[k]);
        due("value(24, 10)", x.value(24, 10), -1);
        due("value(25, 1), no record", x.value(25, 1), 1);
        due("value(255, 1), no record", x.value(255, 1), 9);
        dueSame("on paper: none is held", held(x), held);
        PackedPages y = new PackedPages();
        put(y, 0);
        due("value(0, 0), none", y.value(0, 0), 0);
        due("value(230, 0), the last of the longest log", longestLog().value(230, 0), 0);
        due("value(0, 2), none", y.value(0, 2), -1);
    }

    private static void noValue() {
        PackedPages x = new PackedPages();
        due("value(1, 0)", x.value(1, 0), -1);
        due("value(1, 2)", x.value(1, 2), -1);
        put(x, 1, 7);
        for (int what : row(-1, 3, 10, Integer.MIN_VALUE, Integer.MIN_VALUE + 1, Integer.MAX_VALUE)) due("value(1, " + what + ")", x.value(1, what), -1);
        due("value(-1, 1)", x.value(-1, 1), -1);
        due("value(256, 1)", x.value(256, 1), -1);
        for (int what = 0; what < 5; what++) due("down", downStore().value(5, what), -1);
        due("nothing is told of it", x.status() + x.count(13) + x.count(14), 0);
    }

    private static void nextOf() {
        PackedPages x = new PackedPages();
        put(x, 0);
        put(x, 255);
        due("next(0)", x.next(0), 0);
        due("next(1)", x.next(1), 255);
        due("next(255)", x.next(255), 255);
        for (int key = 200; key < 231; key++) due("next(" + key + "), the longest log", longestLog().next(key), key);
        PackedPages y = tenPages();
        for (int key = 0; key <= 234; key++) due("next(" + key + ")", y.next(key), (key + 5) / 6 * 6);
        y.erase(24);
        due("next(19), over a fence", y.next(19), 30);
    }

    private static void noNext() {
        PackedPages x = new PackedPages();
        due("next(0) of none", x.next(0), -1);
        put(x, 100);
        due("next(100)", x.next(100), 100);
        due("next(101)", x.next(101), -1);
        for (int key : row(-1, 256, Integer.MIN_VALUE, Integer.MAX_VALUE)) due("next(" + key + ")", x.next(key), -1);
        due("down", downStore().next(0), -1);
    }

    /** Key 7 packed; then in the log: put 8, erase 7, grow 8. */
    private static PackedPages someEntries() {
        PackedPages x = new PackedPages();
        put(x, 7, 1, 2);
        x.compact();
        put(x, 8, 1);
        x.erase(7);
        grow(x, 8, 5, 6);
        return x;
    }

    private static void behindSome() {
        PackedPages x = someEntries();
        int[][] want = {{1, 2, -1}, {2, 2, 1}, {1, -1, 1}, {1, -1, 3}};
        for (int j = 0; j < 4; j++) {
            due("behind(0, " + j + ", -1)", x.behind(0, j, -1), want[j][0]);
            due("behind(0, " + j + ", 7)", x.behind(0, j, 7), want[j][1]);
            due("behind(0, " + j + ", 8)", x.behind(0, j, 8), want[j][2]);
        }
        due("nothing is done", x.value(8, 0), 3);
        due("an empty page", new PackedPages().behind(0, 0, -1), 0);
        PackedPages y = longestLog();
        for (int j = 0; j <= 31; j++) {
            due("behind(0, " + j + ", -1)", y.behind(0, j, -1), j);
            due("behind(0, " + j + ", " + (199 + j) + ")", y.behind(0, j, 199 + j), j == 0 ? -1 : 0);
            due("behind(0, " + j + ", " + (200 + j) + ")", y.behind(0, j, 200 + j), -1);
        }
        due("behind(0, 32, -1)", y.behind(0, 32, -1), -1);
    }

    private static void behindNone() {
        PackedPages x = someEntries();
        due("behind(0, 4, -1)", x.behind(0, 4, -1), -1);
        due("behind(0, -1, -1)", x.behind(0, -1, -1), -1);
        due("behind(0, MAX, -1)", x.behind(0, Integer.MAX_VALUE, -1), -1);
        due("behind(0, MIN, -1)", x.behind(0, Integer.MIN_VALUE, -1), -1);
        due("behind(1, 0, -1)", x.behind(1, 0, -1), -1);
        due("behind(-1, 0, -1)", x.behind(-1, 0, -1), -1);
        due("behind(0, 0, -2)", x.behind(0, 0, -2), -1);
        due("behind(0, 0, 256)", x.behind(0, 0, 256), -1);
        due("behind(0, 0, 9)", x.behind(0, 0, 9), -1);
        due("in another page", tenPages().behind(0, 0, 24), -1);
        due("in that page", tenPages().behind(1, 0, 24), 8);
        due("down", downStore().behind(0, 0, -1), -1);
        due("down", downStore().behind(0, 1, 5), -1);
    }

    private static void dueWould(PackedPages x, int told, int bytes, int padding, int pages) {
        int[] disk = disk(x), held = held(x), rest = rest(x), readings = readings(x);
        int status = x.status(), flaw = x.flaw();
        due("would(0)", x.would(0), told);
        due("would(1)", x.would(1), bytes);
        due("would(2)", x.would(2), padding);
        due("would(3)", x.would(3), pages);
        dueSame("all that is read", readings(x), readings);
        dueDisk("behind would()", x, disk);
        dueSame("what is held", held(x), held);
        dueSame("all else", rest(x), rest);
        due("status()", x.status(), status);
        due("flaw()", x.flaw(), flaw);
    }

    private static void would() {
        PackedPages x = new PackedPages();
        dueWould(x, -6, 0, 0, 1);
        lay(x, 0x10, 1);
        x.fuse(0);
        dueWould(x, 1, 138, 0, 1);
        lay(x, 0x20, 1);
        dueWould(x, -2, 0, 0, 1);
        lay(x, 0x10, 1, 0x10, 1);
        dueWould(x, -4, 0, 0, 1);
        PackedPages y = tenPages();
        lay(y, roughEntries(1));
        dueWould(y, -5, 0, 0, 10);
        lay(y, 0x20, 216, 0x20, 222, 0x20, 228, 0x20, 234);
        dueWould(y, 4, 3 + 129 + 38, 0, 9);
        due("group()", y.group(), 4);
        due("written()", y.written(), 3 + 129 + 38);
        for (PackedPages w : new PackedPages[] {padded(32), tenPagesNoRoom(), longestLog()}) {
            lay(w, 0x20, 24 + w.next(0), 0x11, w.next(w.next(0) + 1), 1, 0x11, 254, 7, 0x11, 23, 9);
            int[] readings = readings(w);
            w.would(0);
            dueSame("what is on the disk is read, not what would be", readings(w), readings);
            lay(w, 0x20, w.next(0));
            due("would(0)", w.would(0), w.page(0, 8) < 2 && w.count(1) == 10 ? -5 : 1);
            dueSame("what is on the disk is read, not what would be", readings(w), readings);
        }
        PackedPages v = tenPages();
        due("put(75), logged in page 3", put(v, 75), 0);
        due("put(25), logged in page 1", put(v, 25), 0);
        lay(v, 0x20, 24, 0x20, 25, 0x20, 30, 0x20, 36, 0x20, 42);
        int[] readings = readings(v);
        due("would(3), page 1 would go", v.would(3), 9);
        due("count(2)", v.count(2), 2);
        dueSame("what is on the disk is read, not what would be", readings(v), readings);
        due("fetch(24)", v.fetch(24), 8);
        due("page(1, 9)", v.page(1, 9), 1);
        lay(v, 0x20, 216, 0x20, 222, 0x20, 228, 0x20, 234, 0x18, 76, 1, 20, 3, 40, 5, 60, 7, 80);
        due("would(3), page 9 would be another", v.would(3), 10);
        due("count(2)", v.count(2), 2);
        PackedPages z = padded(30);
        z.terms(0, 16);
        z.terms(1, 1);
        lay(z, roughEntries(190, 200));
        dueWould(z, 2, 3 + 2 * 129 + 22, 64, 5);
        lay(z, joined(roughEntries(190, 200), row(0x20, 77)));
        dueWould(z, -2, 0, 60, 4);
    }

    private static void wouldWithoutFuse() {
        PackedPages x = new PackedPages();
        x.fuse(3);
        lay(x, 0x10, 1);
        due("would(0)", x.would(0), 1);
        due("would(1)", x.would(1), 138);
        due("count(9)", x.count(9), 3);
        due("count(10)", x.count(10), 0);
        due("group()", x.group(), -7);
        due("written()", x.written(), 3);
    }

    private static void wouldNot() {
        PackedPages x = new PackedPages();
        lay(x, 0x10, 1);
        for (int what : row(-1, 4, Integer.MIN_VALUE, Integer.MAX_VALUE)) due("would(" + what + ")", x.would(what), -1);
        PackedPages down = downStore();
        lay(down, 0x10, 1);
        for (int what = -1; what < 5; what++) due("down, would(" + what + ")", down.would(what), -1);
        due("nothing is told of it", down.count(15), 0);
    }

    // ---- 22 .. 24, 27 .. 29

    private static void pages() {
        sentence("how many are left behind it (8), whether HELD (9: 1, 0).", PromiseBoundaryTest::pageOf);
        sentence("NONE (others; DOWN).", PromiseBoundaryTest::othersAndDown);
        sentence("Of the i-th PAGE in ORDER how many BYTES were PACKED by a FILTER, were its RECORDS packed now.", PromiseBoundaryTest::packingOf);
        sentence("its KIND (what 0), n (1), KEY (2), BYTE k (3 + k).", PromiseBoundaryTest::entryOf);
        sentence("A BYTE of a PAGE's BLOCK, whatever stands. NONE.", PromiseBoundaryTest::blockOf);
        sentence("A BYTE of the DIRECTORY, whatever stands. NONE.", PromiseBoundaryTest::directoryOf);
        sentence("A BYTE of the JOURNAL, whatever stands. NONE.", PromiseBoundaryTest::journalOf);
    }

    private static void duePage(PackedPages x, int i, int... want) {
        for (int what = 0; what < want.length; what++) due("page(" + i + ", " + what + ")", x.page(i, what), want[what]);
    }

    private static void pageOf() {
        PackedPages x = new PackedPages();
        duePage(x, 0, 0, 0, 0, 0, 0, 0, 0, 0, 62, 0);
        put(x, 9, 1, 2);
        duePage(x, 0, 0, 0, 1, 4, 0, 0, 1, 4, 58, 1);
        x.compact();
        duePage(x, 0, 0, 0, 1, 4, 0, 5, 0, 0, 57, 0);
        x.fetch(9);
        duePage(x, 0, 0, 0, 1, 4, 0, 5, 0, 0, 57, 1);
        x.erase(9);
        duePage(x, 0, 0, 0, 0, 0, 0, 5, 1, 2, 55, 1);
        duePage(tenPages(), 9, 9, 216, 4, 40, 0, 41, 0, 0, 21, 0);
        PackedPages y = tenPagesNoRoom();
        duePage(y, 0, 0, 0, 7, 61, 0, 41, 3, 21, 0, 1);
        duePage(longestLog(), 0, 0, 0, 31, 62, 0, 0, 31, 62, 0, 1);
        PackedPages z = new PackedPages();
        put(z, 9, 1, 10, 2, 20, 3, 30, 4, 40);
        due("page(0, 4), not packed yet", z.page(0, 4), 0);
        z.compact();
        due("page(0, 4)", z.page(0, 4), 3);
    }

    private static void othersAndDown() {
        PackedPages x = tenPages();
        PackedPages down = downStore();
        for (int what = 0; what < 10; what++) {
            due("page(10, " + what + ")", x.page(10, what), -1);
            due("page(-1, " + what + ")", x.page(-1, what), -1);
            due("page(MAX, " + what + ")", x.page(Integer.MAX_VALUE, what), -1);
            due("page(MIN, " + what + ")", x.page(Integer.MIN_VALUE, what), -1);
            due("down, page(0, " + what + ")", down.page(0, what), -1);
        }
        for (int what : row(-1, 10, Integer.MIN_VALUE, Integer.MAX_VALUE)) due("page(0, " + what + ")", x.page(0, what), -1);
        for (int filter : row(-1, 4, Integer.MIN_VALUE, Integer.MAX_VALUE)) due("packing(0, " + filter + ")", x.packing(0, filter), -1);
        for (int filter = 0; filter < 4; filter++) {
            due("packing(10, " + filter + ")", x.packing(10, filter), -1);
            due("packing(-1, " + filter + ")", x.packing(-1, filter), -1);
            due("down, packing(0, " + filter + ")", down.packing(0, filter), -1);
        }
        for (int what = 0; what < 5; what++) {
            due("entry(0, 0, " + what + "), an empty log", x.entry(0, 0, what), -1);
            due("down, entry(0, 0, " + what + ")", down.entry(0, 0, what), -1);
        }
        due("page(9, 0), the last", x.page(9, 0), 9);
    }

    private static void packingOf() {
        PackedPages x = new PackedPages();
        for (int filter = 0; filter < 4; filter++) due("of none", x.packing(0, filter), 0);
        put(x, 9, 1, 10, 2, 20, 3, 30, 4, 40);
        int[] want = {11, 11, 11, 9};
        for (int filter = 0; filter < 4; filter++) due("packing(0, " + filter + ")", x.packing(0, filter), want[filter]);
        x.compact();
        put(x, 9);
        for (int filter = 0; filter < 4; filter++) due("with its log done", x.packing(0, filter), 3);
        PackedPages y = tenPagesNoRoom();
        for (int filter = 0; filter < 4; filter++) due("more than there is room for: 61 and 1", y.packing(0, filter) > 58 ? 1 : 0, 1);
        due("packing(0, 0)", y.packing(0, 0), 62);
        due("of the longest log", longestLog().packing(0, 0), 63);
        due("of the longest log", longestLog().packing(0, 3), 6);
    }

    private static void dueEntry(PackedPages x, int j, int... want) {
        for (int what = 0; what < want.length; what++) due("entry(0, " + j + ", " + what + ")", x.entry(0, j, what), want[what]);
        due("entry(0, " + j + ", " + want.length + ")", x.entry(0, j, want.length), -1);
        due("entry(0, " + j + ", -1)", x.entry(0, j, -1), -1);
        due("entry(0, " + j + ", MAX)", x.entry(0, j, Integer.MAX_VALUE), -1);
        due("entry(0, " + j + ", MIN)", x.entry(0, j, Integer.MIN_VALUE), -1);
    }

    private static void entryOf() {
        PackedPages x = new PackedPages();
        put(x, 0);
        put(x, 255, 1, 2, 3, 4, 5, 6, 7, 8);
        x.alter(255, 7, 0);
        grow(x, 0, 9);
        x.erase(255);
        dueEntry(x, 0, 1, 0, 0);
        dueEntry(x, 1, 1, 8, 255, 1, 2, 3, 4, 5, 6, 7, 8);
        dueEntry(x, 2, 3, 7, 255, 0);
        dueEntry(x, 3, 4, 1, 0, 9);
        dueEntry(x, 4, 2, 0, 255);
        for (int j : row(-1, 5, 64, Integer.MIN_VALUE, Integer.MAX_VALUE)) due("entry(0, " + j + ", 0)", x.entry(0, j, 0), -1);
        due("entry(1, 0, 0)", x.entry(1, 0, 0), -1);
        due("entry(-1, 0, 0)", x.entry(-1, 0, 0), -1);
        PackedPages y = longestLog();
        due("entry(0, 30, 2), at the block's end", y.entry(0, 30, 2), 230);
        due("entry(0, 30, 3)", y.entry(0, 30, 3), -1);
        due("entry(0, 31, 0)", y.entry(0, 31, 0), -1);
        due("page(0, 6)", y.page(0, 6), 31);
    }

    private static void blockOf() {
        PackedPages x = downStore();
        due("block(0, 0), down", x.block(0, 0), 0);
        due("block(0, 2), down", x.block(0, 2), 0x12);
        due("block(0, 63)", x.block(0, 63), 0);
        due("block(9, 63)", x.block(9, 63), 0);
        for (int page : row(-1, 10, Integer.MIN_VALUE, Integer.MAX_VALUE)) due("block(" + page + ", 0)", x.block(page, 0), -1);
        for (int k : row(-1, 64, Integer.MIN_VALUE, Integer.MAX_VALUE)) due("block(0, " + k + ")", x.block(0, k), -1);
        PackedPages y = tenPages();
        for (int key = 216; key < 240; key += 6) y.erase(key);
        due("block(9, 1), a free page's", y.block(9, 1), 41);
    }

    private static void directoryOf() {
        due("directory(0), down", downStore().directory(0), 1);
        PackedPages x = tenPages();
        due("directory(0)", x.directory(0), 10);
        due("directory(19)", x.directory(19), 9);
        due("directory(20)", x.directory(20), 216);
        for (int k : row(-1, 21, Integer.MIN_VALUE, Integer.MAX_VALUE)) due("directory(" + k + ")", x.directory(k), -1);
    }

    private static void journalOf() {
        PackedPages x = tenPages();
        x.fuse(1);
        due("compact()", x.compact(), -7);
        due("journal(0), down", x.journal(0), 0);
        due("journal(1), down", x.journal(1), 10);
        due("journal(672), down", x.journal(672), 216);
        for (int k : row(-1, 673, Integer.MIN_VALUE, Integer.MAX_VALUE)) due("journal(" + k + ")", x.journal(k), -1);
    }

    // ---- 30, 31

    private static void counts() {
        sentence("0 RECORDS, 1 PAGES IN USE, 2 ENTRIES of all (0 .. 2: NONE, if DOWN)", PromiseBoundaryTest::countsOnDisk);
        sentence("10 whether DOWN (1, 0), 11 how many can be undone, 12 BYTES of the TAPE", PromiseBoundaryTest::countsOfStanding);
        sentence("20 .. 24 TERMS 0 .. 4", PromiseBoundaryTest::countsOfTerms);
        sentence("13 .. 18 how many calls were REFUSED by -1 .. -6, 19 how many told -7", PromiseBoundaryTest::countsOfRefusals);
        sentence("NONE for others.", PromiseBoundaryTest::countsOfOthers);
        sentence("was REFUSED by, or -7; 0 if neither, or ahead of any.", PromiseBoundaryTest::status);
    }

    private static void countsOnDisk() {
        PackedPages x = new PackedPages();
        dueCounts(x, 0, 0, 1, 0);
        dueCounts(tenPages(), 0, 40, 10, 0);
        dueCounts(tenPagesNoRoom(), 0, 43, 10, 3);
        dueCounts(longestLog(), 0, 31, 1, 31);
        PackedPages down = downStore();
        dueCounts(down, 0, -1, -1, -1, 0, 0, 0, 0, 0, 1, -1, 1, 2, 0);
        down.recover();
        dueCounts(down, 0, 1, 1, 1, 0, 0, 0, 0, 0, 1, -1, 0, 3, 0);
        PackedPages y = tenPages();
        for (int key = 216; key < 240; key += 6) y.erase(key);
        dueCounts(y, 0, 36, 9, 0);
        int key = 0;
        PackedPages all = new PackedPages();
        while (key < 256 && put(all, key) >= 0) key++;
        due("count(0), all keys", all.count(0), 256);
    }

    private static void countsOfStanding() {
        PackedPages x = new PackedPages();
        dueCounts(x, 10, 0, 0, 0);
        lay(x, roughRow(400));
        dueCounts(x, 10, 0, 0, 400);
        put(x, 1, 1);
        x.fuse(0);
        x.erase(1);
        dueCounts(x, 10, 1, 2, 0);
        x.recover();
        dueCounts(x, 10, 0, 3, 0);
        for (int i = 0; i < 20; i++) x.compact();
        dueCounts(x, 10, 0, 16, 0);
        for (int i = 16; i > 0; i--) {
            due("count(11)", x.count(11), i);
            x.undo();
        }
        dueCounts(x, 10, 0, 0, 0);
    }

    private static void countsOfTerms() {
        PackedPages x = new PackedPages();
        dueCounts(x, 20, 4, 8, 25, 8, 2);
        int[] low = {0, 1, 0, 1, 1}, high = {16, 16, 100, 32, 4};
        for (int what = 0; what < 5; what++) x.terms(what, low[what]);
        dueCounts(x, 20, low);
        for (int what = 0; what < 5; what++) x.terms(what, high[what]);
        dueCounts(x, 20, high);
        due("count(25)", x.count(25), -1);
    }

    private static void countsOfRefusals() {
        PackedPages x = tenPages();
        x.erase(256);
        x.erase(1);
        x.recover();
        putRough(x, 0);
        putRough(x, 1);
        x.end(0);
        x.group();
        x.fuse(0);
        x.erase(0);
        dueCounts(x, 13, 1, 1, 1, 1, 1, 1, 1);
        x.feed(0, 0, 0, 0, 0);
        x.end(99);
        x.tape(999);
        x.value(999, 0);
        x.page(99, 0);
        x.would(0);
        x.count(99);
        x.next(999);
        x.block(99, 0);
        dueCounts(x, 13, 1, 1, 1, 1, 1, 1, 1);
        x.undo();
        dueCounts(x, 13, 1, 1, 1, 1, 1, 1, 1);
    }

    private static void countsOfOthers() {
        PackedPages x = new PackedPages();
        for (int what : row(-1, 25, Integer.MIN_VALUE, Integer.MAX_VALUE)) due("count(" + what + ")", x.count(what), -1);
        due("count(24)", x.count(24), 2);
        due("count(0)", x.count(0), 0);
    }

    private static void status() {
        PackedPages x = new PackedPages();
        due("ahead of any", x.status(), 0);
        x.erase(1);
        due("-2", x.status(), -2);
        x.feed(0, 0, 0, 0, 0);
        x.end(99);
        x.tape(0);
        x.flaw();
        x.written();
        x.value(1, 0);
        x.next(0);
        x.page(0, 0);
        x.packing(0, 0);
        x.entry(0, 0, 0);
        x.behind(0, 0, 0);
        x.would(0);
        x.block(0, 0);
        x.directory(0);
        x.journal(0);
        x.count(0);
        due("others leave it", x.status(), -2);
        x.end(0);
        statusOfEach(x);
    }

    private static void dueStatus(PackedPages x, int answer, int want) {
        due("status() behind " + answer, x.status(), want);
    }

    private static void statusOfEach(PackedPages x) {
        dueStatus(x, x.terms(0, 4), 0);
        dueStatus(x, x.terms(0, 17), -1);
        dueStatus(x, x.pack(0), 0);
        dueStatus(x, x.pack(4), -1);
        dueStatus(x, x.unpack(0), 0);
        dueStatus(x, x.unpack(4), -1);
        dueStatus(x, x.put(1), 0);
        dueStatus(x, x.put(1), -4);
        dueStatus(x, grow(x, 1, 1), 0);
        dueStatus(x, x.grow(1), -1);
        dueStatus(x, x.alter(1, 0, 2), 0);
        dueStatus(x, x.alter(1, 0, 2), -4);
        dueStatus(x, group(x, 0x10, 2), 0);
        dueStatus(x, x.group(), -6);
        dueStatus(x, x.compact(), 0);
        dueStatus(x, x.fuse(-2), -1);
        dueStatus(x, x.fuse(-1), 0);
        dueStatus(x, x.recover(), -3);
        dueStatus(x, x.fetch(1), 0);
        dueStatus(x, x.fetch(3), -2);
        dueStatus(x, x.undo(), 0);
        dueStatus(x, x.erase(3), -2);
        dueStatus(x, x.erase(2), 0);
        dueStatus(x, x.fuse(0), 0);
        dueStatus(x, x.compact(), -7);
        dueStatus(x, x.compact(), -3);
        dueStatus(x, x.recover(), 0);
        for (int i = 0; i < 16; i++) x.undo();
        dueStatus(x, x.undo(), -4);
        lay(x, roughRow(400));
        dueStatus(x, x.pack(0), -5);
        dueStatus(x, x.terms(0, 4), 0);
    }
}
