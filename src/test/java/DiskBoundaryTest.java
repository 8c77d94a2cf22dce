import java.util.ArrayList;
import java.util.Arrays;
import java.util.List;
import java.util.function.Consumer;
import java.util.function.Supplier;

/** Each sentence of Terms III that names a boundary case: a test of its own. */
public final class DiskBoundaryTest extends Stores {
    public static void main(String[] args) {
        onDisk();
        edits();
        spreading();
        learning();
        writing();
        groups();
        compacting();
        recovering();
        holding();
        finish("Terms III");
    }

    // ---- on disk

    private static void onDisk() {
        sentence("of 64 BYTES (all 0 at first)", DiskBoundaryTest::emptyBlocks);
        sentence("it ends at a 0 that would begin one, or at the BLOCK's end", DiskBoundaryTest::endOfALog);
        sentence("1 PUT, n 0 .. 8, n BYTES: the VALUE, whether there was one or not", DiskBoundaryTest::entriesPut);
        sentence("2 ERASE, n 0, none", DiskBoundaryTest::entriesErase);
        sentence("3 ALTER, n 0 .. 7, one: the VALUE's BYTE n", DiskBoundaryTest::entriesAlter);
        sentence("4 GROW, n 1 .. 8, n: behind the VALUE's", DiskBoundaryTest::entriesGrow);
        sentence("ENTRY: 16 times the KIND and n", DiskBoundaryTest::otherKinds);
        sentence("The RECORDS of a PAGE are those unpacked, with all ENTRIES done in order.", DiskBoundaryTest::entriesInOrder);
        sentence("(1, 0, 0 at first; behind them whatever was)", DiskBoundaryTest::directoryAtFirst);
        sentence("The JOURNAL (673 BYTES, all 0 at first)", DiskBoundaryTest::emptyJournal);
        sentence("then as many BYTES of a DIRECTORY as its first tells", DiskBoundaryTest::fullJournal);
    }

    private static void emptyBlocks() {
        PackedPages x = new PackedPages();
        for (int p = 0; p < 10; p++) for (int k = 0; k < 64; k++) due("block", x.block(p, k), 0);
        due("block(9, 64)", x.block(9, 64), -1);
    }

    /** Filled up to its last byte a log has no 0 to end at. */
    private static void endOfALog() {
        PackedPages x = new PackedPages();
        x.terms(0, 0);
        due("no entry", x.page(0, 6), 0);
        due("left", x.page(0, 8), 62);
        for (int key = 0; key < 6; key++) putRough(x, key);
        due("left", x.page(0, 8), 2);
        due("entries", x.page(0, 6), 6);
        due("erase(3), to the end", x.erase(3), 0);
        due("left", x.page(0, 8), 0);
        due("entries", x.page(0, 6), 7);
        due("bytes", x.page(0, 7), 62);
        dueBlock(x, 0, 62, 0x20, 3);
        due("entry(0, 6, 2)", x.entry(0, 6, 2), 3);
        due("entry(0, 7, 0)", x.entry(0, 7, 0), -1);
        due("count(0)", x.count(0), 5);
        due("behind(0, 7, -1)", x.behind(0, 7, -1), 5);
        due("behind(0, 8, -1)", x.behind(0, 8, -1), -1);
        due("a key more is spread", put(longestLog(), 231), 1);
        PackedPages y = new PackedPages();
        put(y, 0, 0, 0);
        due("bytes of 0 in an entry end nothing", y.page(0, 7), 4);
        put(y, 1);
        due("a 0 behind a key", y.page(0, 6), 2);
        y.compact();
        due("none behind what is packed", y.page(0, 6), 0);
    }

    private static void entriesPut() {
        PackedPages x = new PackedPages();
        due("put without bytes", group(x, 0x10, 1), 1);
        dueValue(x, 1);
        due("put 8 where there was one", group(x, 0x18, 1, 1, 2, 3, 4, 5, 6, 7, 8), 1);
        dueValue(x, 1, 1, 2, 3, 4, 5, 6, 7, 8);
        due("put 1 where there was none", group(x, 0x11, 2, 9), 1);
        due("put 9", group(x, 0x19, 3, 1, 2, 3, 4, 5, 6, 7, 8, 9), -6);
        due("put 15", group(x, joined(new int[] {0x1F, 3}, repeated(1, 15))), -6);
        due("put 8, one missing", group(x, 0x18, 3, 1, 2, 3, 4, 5, 6, 7), -6);
        due("put 0, its key missing", group(x, 0x10), -6);
        due("count(0)", x.count(0), 2);
    }

    private static void entriesErase() {
        PackedPages x = new PackedPages();
        put(x, 1, 1);
        for (int n = 1; n < 16; n++) {
            due("erase with n " + n, group(x, joined(new int[] {0x20 + n, 1}, repeated(1, n))), -6);
            due("erase with n " + n + ", no byte behind it", group(x, 0x20 + n, 1), -6);
            due("flaw()", x.flaw(), 0);
        }
        due("erase, its key missing", group(x, 0x20), -6);
        due("erase", group(x, 0x20, 1), 1);
        due("count(0)", x.count(0), 0);
    }

    private static void entriesAlter() {
        PackedPages x = new PackedPages();
        put(x, 1, 1, 2, 3, 4, 5, 6, 7, 8);
        due("alter n 0", group(x, 0x30, 1, 100), 1);
        due("alter n 7", group(x, 0x37, 1, 107), 1);
        dueValue(x, 1, 100, 2, 3, 4, 5, 6, 7, 107);
        for (int n = 8; n < 16; n++) {
            due("alter n " + n, group(x, 0x30 + n, 1, 0), -6);
            due("alter n " + n + ", so many bytes", group(x, joined(new int[] {0x30 + n, 1}, repeated(1, n))), -6);
            due("flaw()", x.flaw(), 0);
        }
        due("alter, its byte missing", group(x, 0x37, 1), -6);
        due("alter, its key missing", group(x, 0x37), -6);
    }

    private static void entriesGrow() {
        PackedPages x = new PackedPages();
        put(x, 1);
        put(x, 2, 9);
        due("grow n 8", group(x, 0x48, 1, 1, 2, 3, 4, 5, 6, 7, 8), 1);
        due("grow n 1", group(x, 0x41, 2, 8), 1);
        dueValue(x, 1, 1, 2, 3, 4, 5, 6, 7, 8);
        dueValue(x, 2, 9, 8);
        due("grow n 0", group(x, 0x40, 2), -6);
        due("grow n 9", group(x, joined(new int[] {0x49, 2}, repeated(1, 9))), -6);
        due("grow n 2, one missing", group(x, 0x42, 2, 1), -6);
        due("grow, its key missing", group(x, 0x41), -6);
    }

    private static void otherKinds() {
        for (int kind = 0; kind < 16; kind++) {
            if (kind >= 1 && kind <= 4) continue;
            for (int n = 0; n < 16; n++) {
                PackedPages x = new PackedPages();
                due("kind " + kind + ", n " + n, group(x, joined(new int[] {16 * kind + n, 1}, repeated(1, 16))), -6);
                due("flaw()", x.flaw(), 0);
            }
        }
    }

    private static void entriesInOrder() {
        PackedPages x = new PackedPages();
        put(x, 1, 1);
        x.compact();
        x.alter(1, 0, 5);
        x.erase(1);
        put(x, 1, 8, 8);
        grow(x, 1, 9);
        x.alter(1, 2, 7);
        dueValue(x, 1, 8, 8, 7);
        int[] sizes = {1, 1, -1, 2, 3, 3};
        for (int j = 0; j < sizes.length; j++) due("behind(0, " + j + ", 1)", x.behind(0, j, 1), sizes[j]);
    }

    private static void directoryAtFirst() {
        PackedPages x = new PackedPages();
        due("directory(0)", x.directory(0), 1);
        for (int k = 1; k < 21; k++) due("directory(" + k + ")", x.directory(k), 0);
        due("directory(21)", x.directory(21), -1);
        PackedPages y = tenPages();
        for (int key = 24; key < 48; key += 6) y.erase(key);
        due("count(1)", y.count(1), 9);
        int[] row = {9, 0, 0, 2, 48, 3, 72, 4, 96, 5, 120, 6, 144, 7, 168, 8, 192, 9, 216, 9, 216};
        for (int k = 0; k < 21; k++) due("directory(" + k + "), behind them whatever was", y.directory(k), row[k]);
        for (int key = 0; key < 256; key++) if (y.value(key, 0) >= 0 && key > 0) y.erase(key);
        due("compact()", y.compact(), 1);
        due("directory(0)", y.directory(0), 1);
        due("directory(20), whatever was", y.directory(20), 216);
    }

    private static void emptyJournal() {
        PackedPages x = new PackedPages();
        for (int k = 0; k < 673; k++) due("journal(" + k + ")", x.journal(k), 0);
        due("journal(673)", x.journal(673), -1);
        put(x, 1, 1);
        x.erase(1);
        for (int k = 0; k < 673; k++) due("journal(" + k + "), what is logged is not there", x.journal(k), 0);
    }

    private static void fullJournal() {
        PackedPages x = tenPages();
        x.compact();
        due("journal(1)", x.journal(1), 10);
        for (int p = 0; p < 10; p++) {
            due("a page's number", x.journal(2 + 65 * p), p);
            for (int k = 0; k < 64; k++) due("its block", x.journal(3 + 65 * p + k), x.block(p, k));
        }
        for (int k = 0; k < 21; k++) due("the directory", x.journal(652 + k), x.directory(k));
        due("journal(672), the last", x.journal(672), 216);
        due("written()", x.written(), 3 + 1290 + 42);
        PackedPages y = new PackedPages();
        y.compact();
        due("journal(67)", y.journal(67), 1);
        due("written()", y.written(), 3 + 129 + 6);
    }

    // ---- an edit

    private static void edits() {
        sentence("(-2), if it is not a PUT and there is no such RECORD", DiskBoundaryTest::noSuchRecord);
        sentence("if it is an ALTER beyond the VALUE or of a BYTE that is so", DiskBoundaryTest::alterThatCantBe);
        sentence("a GROW to more than 8", DiskBoundaryTest::growToNine);
        sentence("a PUT of a VALUE that is so", DiskBoundaryTest::putThatIsSo);
        sentence("If it is an ERASE, no RECORD is left, and its FENCE is not 0, the PAGE GOES: it is free (its BLOCK stays as it is).", DiskBoundaryTest::pageGoes);
        sentence("if the ENTRY has room behind the LOG with RESERVE more BYTES left", DiskBoundaryTest::roomWithReserve);
        sentence("(an ERASE: RESERVE may be taken)", DiskBoundaryTest::roomForErase);
        sentence("and PLAIN then is not above FULL", DiskBoundaryTest::plainAtFull);
        sentence("or not above what it was: it is LOGGED", DiskBoundaryTest::plainNotMore);
        sentence("FULL: 120 less PADDING.", DiskBoundaryTest::fullIsLess);
    }

    private static void noSuchRecord() {
        PackedPages x = new PackedPages();
        due("alter", x.alter(0, 0, 0), -2);
        due("erase", x.erase(0), -2);
        due("grow", grow(x, 0, 1), -2);
        due("put", put(x, 0), 0);
        due("alter beyond, not -2", x.alter(0, 0, 0), -4);
        due("grow", grow(x, 0, 1), 0);
        due("erase", x.erase(0), 0);
        due("erase, it is gone", x.erase(0), -2);
        x.compact();
        due("alter, it is gone", x.alter(0, 0, 0), -2);
    }

    private static void alterThatCantBe() {
        PackedPages x = new PackedPages();
        put(x, 1, 5, 6);
        due("the last byte", x.alter(1, 1, 7), 0);
        due("beyond", x.alter(1, 2, 7), -4);
        due("beyond", x.alter(1, 7, 0), -4);
        due("as it is", x.alter(1, 1, 7), -4);
        due("as it was", x.alter(1, 1, 6), 0);
        put(x, 2);
        due("of none", x.alter(2, 0, 0), -4);
        put(x, 3, 1, 2, 3, 4, 5, 6, 7, 8);
        due("byte 7", x.alter(3, 7, 0), 0);
        due("byte 7, as it is", x.alter(3, 7, 0), -4);
    }

    private static void growToNine() {
        PackedPages x = new PackedPages();
        put(x, 1, 1, 2, 3);
        due("3 and 6", grow(x, 1, 1, 2, 3, 4, 5, 6), -4);
        due("3 and 5", grow(x, 1, 1, 2, 3, 4, 5), 0);
        due("8 and 1", grow(x, 1, 1), -4);
        put(x, 2);
        due("0 and 8", grow(x, 2, 1, 2, 3, 4, 5, 6, 7, 8), 0);
        put(x, 3, 1);
        due("1 and 8", grow(x, 3, 1, 2, 3, 4, 5, 6, 7, 8), -4);
    }

    private static void putThatIsSo() {
        PackedPages x = new PackedPages();
        due("none", put(x, 1), 0);
        due("none again", put(x, 1), -4);
        due("a 0 more", put(x, 1, 0), 0);
        due("as it is", put(x, 1, 0), -4);
        due("begins so", put(x, 1, 0, 0), 0);
        due("one less", put(x, 1, 0), 0);
        due("another last byte", put(x, 1, 1, 2, 3, 4, 5, 6, 7, 8), 0);
        due("another last byte", put(x, 1, 1, 2, 3, 4, 5, 6, 7, 9), 0);
        due("as it is", put(x, 1, 1, 2, 3, 4, 5, 6, 7, 9), -4);
        due("another first byte", put(x, 1, 2, 2, 3, 4, 5, 6, 7, 9), 0);
    }

    private static void pageGoes() {
        PackedPages x = tenPages();
        for (int key = 216; key < 234; key += 6) due("erase(" + key + "), some are left", x.erase(key), 0);
        int[] before = disk(x);
        due("erase(234), the last", x.erase(234), 2);
        due("count(1)", x.count(1), 9);
        int[] after = disk(x);
        for (int k = 0; k < 640; k++) due("a block's byte " + k, after[k], before[k]);
        due("value(234, 1): the page ahead has its keys", x.value(234, 1), 8);
        PackedPages y = new PackedPages();
        put(y, 200, 1);
        due("erase, the fence is 0", y.erase(200), 0);
        due("count(1)", y.count(1), 1);
        due("page(0, 6)", y.page(0, 6), 2);
        PackedPages z = twoPages();
        for (int key = 0; key < 60; key += 10) due("the first page stays, though another one is there", z.erase(key) == 2 ? 1 : 0, 0);
        due("count(1)", z.count(1), 2);
        due("page(0, 2)", z.page(0, 2), 0);
        due("page(1, 1)", z.page(1, 1), 60);
    }

    /** Five rough records in the log: 12 bytes are left. */
    private static PackedPages twelveLeft() {
        PackedPages x = new PackedPages();
        for (int key = 0; key < 5; key++) putRough(x, key);
        due("page(0, 8)", x.page(0, 8), 12);
        return x;
    }

    private static void roomWithReserve() {
        PackedPages x = twelveLeft();
        due("just room: 8 and 4", put(x, 9, 1, 20, 3, 40, 5, 60), 0);
        due("page(0, 8)", x.page(0, 8), 4);
        x = twelveLeft();
        due("one too many: 9 and 4", put(x, 9, 1, 20, 3, 40, 5, 60, 7) >= 1 ? 1 : 0, 1);
        due("page(0, 6)", x.page(0, 6), 0);
        x = twelveLeft();
        x.terms(0, 2);
        due("just room: 10 and 2", putRough(x, 9), 0);
        x = twelveLeft();
        x.terms(0, 3);
        due("one too many: 10 and 3", putRough(x, 9) >= 1 ? 1 : 0, 1);
        x = twelveLeft();
        x.terms(0, 9);
        due("alter, just room: 3 and 9", x.alter(0, 0, rough(0)[0] ^ 1), 0);
        x = twelveLeft();
        x.terms(0, 10);
        due("alter, one too many: 3 and 10", x.alter(0, 0, rough(0)[0] ^ 1) >= 1 ? 1 : 0, 1);
        x = twelveLeft();
        put(x, 9, 1);
        x.terms(0, 6);
        due("grow, just room: 3 and 6", grow(x, 9, 2), 0);
        x.undo();
        x.terms(0, 7);
        due("grow, one too many: 3 and 7", grow(x, 9, 2) >= 1 ? 1 : 0, 1);
        x = twelveLeft();
        x.terms(0, 0);
        put(x, 9, 1, 20, 3, 40, 5, 60, 7, 80);
        due("to the block's end: 2 and 0", put(x, 10), 0);
        due("page(0, 8)", x.page(0, 8), 0);
    }

    private static void roomForErase() {
        PackedPages x = twelveLeft();
        x.terms(0, 2);
        putRough(x, 9);
        x.terms(0, 16);
        due("2 are left", x.page(0, 8), 2);
        due("erase takes them", x.erase(9), 0);
        due("0 are left", x.page(0, 8), 0);
        due("erase, none left", x.erase(0), 1);
        due("page(0, 6)", x.page(0, 6), 0);
        PackedPages y = twelveLeft();
        y.terms(0, 0);
        put(y, 9, 1, 20, 3, 40, 5, 60, 7, 80);
        y.undo();
        due("put 7", put(y, 9, 1, 20, 3, 40, 5, 60, 7), 0);
        due("3 are left", y.page(0, 8), 3);
        due("erase", y.erase(9), 0);
        due("1 is left", y.page(0, 8), 1);
        due("erase, one too few", y.erase(0), 1);
        due("page(0, 6)", y.page(0, 6), 0);
    }

    /** 11 smooth records and one without bytes: 112 plain, packed, the log empty. */
    private static PackedPages plain112() {
        PackedPages x = new PackedPages();
        x.terms(2, 100);
        for (int key = 0; key < 11; key++) putSmooth(x, key);
        put(x, 11);
        x.compact();
        due("page(0, 3)", x.page(0, 3), 112);
        due("page(0, 6)", x.page(0, 6), 0);
        due("there is room", x.page(0, 8) >= 9 ? 1 : 0, 1);
        x.terms(0, 0);
        return x;
    }

    private static void plainAtFull() {
        PackedPages x = plain112();
        due("to 120", put(x, 12, 7, 7, 7, 7, 7, 7), 0);
        due("page(0, 3)", x.page(0, 3), 120);
        x = plain112();
        due("to 121", put(x, 12, 7, 7, 7, 7, 7, 7, 7), 11);
        x = plain112();
        due("grow, to 120", grow(x, 11, 7, 7, 7, 7, 7, 7, 7, 7), 0);
        due("page(0, 3)", x.page(0, 3), 120);
        x.compact();
        due("of 120", x.page(0, 3), 120);
        due("put, to 122", put(x, 12), 11);
    }

    private static void plainNotMore() {
        PackedPages x = padded(32);
        due("count(3)", x.count(3), 64);
        due("alter: 120 as it was, above 56", x.alter(0, 0, 9), 0);
        x.undo();
        due("put of two bytes less", put(x, 0, 9, 9, 9, 9, 9, 9), 0);
        due("page(0, 3)", x.page(0, 3), 118);
        x.terms(0, 0);
        due("put of none", put(x, 1), 0);
        due("page(0, 3)", x.page(0, 3), 110);
        x = padded(32);
        due("erase: less", x.erase(0), 0);
        due("page(0, 3)", x.page(0, 3), 110);
        due("put: one more than it was", put(x, 12) >= 11 ? 1 : 0, 1);
        x = padded(32);
        due("put: 2 more than it was", put(x, 12) >= 11 ? 1 : 0, 1);
        x = padded(32);
        put(x, 0, 7, 7, 7, 7);
        due("page(0, 3)", x.page(0, 3), 116);
        due("left", x.page(0, 8), 6);
        x.terms(0, 0);
        due("grow: one more than it was", grow(x, 0, 7) >= 11 ? 1 : 0, 1);
        highKeysNotMore();
    }

    /** The same for the highest keys: PADDING comes by the lower ones. */
    private static void highKeysNotMore() {
        PackedPages x = new PackedPages();
        x.terms(1, 16);
        x.terms(2, 100);
        for (int key = 230; key < 242; key++) putSmooth(x, key);
        group(x, roughEntries(0, 10, 20, 30, 40));
        x.compact();
        x.terms(1, 1);
        x.terms(2, 0);
        x.terms(3, 32);
        for (int key = 50; key <= 80; key += 10) putRough(x, key);
        due("count(3)", x.count(3), 64);
        x.terms(1, 16);
        x.terms(0, 0);
        int last = x.count(1) - 1;
        due("above FULL", x.page(last, 3) > 56 ? 1 : 0, 1);
        due("alter: as it was", x.alter(241, 0, 9), 0);
        due("put: less", put(x, 241, 7, 7), 0);
    }

    /** With a padding of 60 FULL is 60: the same edit is logged at 60 and not at 61. */
    private static void fullIsLess() {
        PackedPages x = padded(30);
        due("count(3)", x.count(3), 60);
        int last = x.count(1) - 1;
        due("page(last, 3)", x.page(last, 3), 30);
        for (int key = 200; key < 202; key++) due("put, to 50", putRough(x, key), 0);
        x.terms(0, 0);
        int tries = x.count(4);
        due("put, to 60", putRough(x, 202), 0);
        due("page(last, 3)", x.page(last, 3), 60);
        x.undo();
        due("put, to 58", put(x, 202, 1, 20, 3, 40, 5, 60), 0);
        x.undo();
        x.compact();
        due("compact() keeps to 60, too", x.page(0, 3), 60);
        due("count(4)", x.count(4), tries);
        PackedPages y = padded(30);
        y.terms(0, 0);
        for (int key = 200; key < 202; key++) putRough(y, key);
        due("put, to 52", put(y, 202), 0);
        due("left", y.page(last, 8) >= 9 ? 1 : 0, 1);
        due("put, to 61", put(y, 203, 1, 20, 3, 40, 5, 60, 7), 11);
    }

    // ---- to spread

    private static void spreading() {
        sentence("if PLAIN is not above FULL as it is by then", DiskBoundaryTest::tryAtFull);
        sentence("FULL as it is by then", DiskBoundaryTest::fullByThen);
        sentence("or if there is one or none: a TRY", DiskBoundaryTest::oneOrNone);
        sentence("their SHAPE FITS, if 2, PACKED and RESERVE are 64 together at most", DiskBoundaryTest::justFits);
        sentence("(one RECORD, none: always)", DiskBoundaryTest::alwaysFits);
        sentence("then they are a PAGE with that SHAPE, an empty LOG (all behind is 0)", DiskBoundaryTest::zeroBehind);
        sentence("the first half of them (cut), then the others are SPREAD", DiskBoundaryTest::halves);
        sentence("the first one has the number and the FENCE of the one that was", DiskBoundaryTest::firstKeepsItsPlace);
        sentence("each other one the lowest number that is free, its lowest KEY as FENCE", DiskBoundaryTest::lowestFree);
        sentence("If there are not so many free: no room.", DiskBoundaryTest::notSoManyFree);
    }

    /** 11 smooth records packed in 46 bytes; RESERVE 12: no entry of more than 4 bytes has room. */
    private static PackedPages elevenSmooth() {
        PackedPages x = new PackedPages();
        x.terms(2, 100);
        for (int key = 0; key < 11; key++) putSmooth(x, key);
        x.compact();
        due("page(0, 5)", x.page(0, 5), 46);
        x.terms(0, 12);
        return x;
    }

    private static void tryAtFull() {
        PackedPages x = elevenSmooth();
        int tries = x.count(4);
        due("put, 120: a TRY", putSmooth(x, 11), 1);
        due("count(4)", x.count(4), tries + 1);
        due("count(5)", x.count(5), 0);
        x = plain112();
        tries = x.count(4);
        due("put, 121: no TRY but of the halves", put(x, 12, 7, 7, 7, 7, 7, 7, 7), 11);
        due("count(4)", x.count(4), tries + 2);
        due("count(5)", x.count(5), 0);
    }

    /** PADDING may change between one half and the other. */
    private static void fullByThen() {
        PackedPages x = padded(32);
        due("ROUND 16: none changes, four pages come", put(x, 12), 13);
        dueCounts(x, 3, 64, 4, 0, 2);
        x.undo();
        x.terms(1, 1);
        due("ROUND 1: behind the first TRY FULL is 88", put(x, 12), 12);
        dueCounts(x, 3, 32, 0, 0, 2);
        due("page(0, 2)", x.page(0, 2), 3);
        due("page(1, 2)", x.page(1, 2), 3);
        due("page(2, 2): 62 are not above 88", x.page(2, 2), 7);
        PackedPages y = risingPadding();
        due("put: the whole FAILED, then the second half, 62, is above 56", put(y, 7), 12);
        due("page(0, 2)", y.page(0, 2), 7);
        due("page(1, 2)", y.page(1, 2), 4);
        due("page(2, 2)", y.page(2, 2), 4);
        dueCounts(y, 3, 32, 0, 0, 0);
    }

    /** PADDING 32, ROUND 1; page 0: 7 records without bytes, 5 smooth ones, 2 rough ones, 74 plain; RESERVE 16: they do not fit any more. */
    private static PackedPages risingPadding() {
        PackedPages x = new PackedPages();
        x.terms(0, 0);
        x.terms(1, 1);
        x.terms(2, 0);
        x.terms(3, 32);
        for (int key = 100; key < 170; key += 10) putRough(x, key);
        due("count(3)", x.count(3), 32);
        x.terms(1, 16);
        for (int key = 0; key < 7; key++) put(x, key);
        for (int key = 10; key < 15; key++) put(x, key, 7, 7, 7, 7, 7, 7);
        due("compact()", x.compact(), 2);
        due("page(0, 2)", x.page(0, 2), 14);
        due("page(0, 3)", x.page(0, 3), 74);
        x.terms(0, 16);
        x.terms(1, 1);
        return x;
    }

    private static void oneOrNone() {
        PackedPages x = new PackedPages();
        x.terms(0, 16);
        putRough(x, 5);
        for (int i = 0; i < 12; i++) due("alter, logged", x.alter(5, 0, x.value(5, 2) ^ 1), 0);
        due("page(0, 8)", x.page(0, 8), 16);
        due("alter, one record", x.alter(5, 0, x.value(5, 2) ^ 1), 1);
        due("count(4), one TRY", x.count(4), 1);
        due("page(0, 5)", x.page(0, 5), 11);
        due("page(0, 8)", x.page(0, 8), 51);
        PackedPages y = new PackedPages();
        y.terms(0, 0);
        putRough(y, 5);
        for (int i = 0; i < 17; i++) due("alter", y.alter(5, 0, y.value(5, 2) ^ 1), 0);
        due("page(0, 8)", y.page(0, 8), 1);
        due("erase, none is left, the fence is 0, no room", y.erase(5), 1);
        due("count(4), one TRY", y.count(4), 1);
        due("count(5)", y.count(5), 0);
        due("count(0)", y.count(0), 0);
        for (int k = 0; k < 64; k++) due("block(0, " + k + ")", y.block(0, k), 0);
    }

    private static void justFits() {
        PackedPages x = elevenSmooth();
        due("2 and 50 and 12", putSmooth(x, 11), 1);
        due("page(0, 5)", x.page(0, 5), 50);
        due("page(0, 8)", x.page(0, 8), 12);
        x = elevenSmooth();
        x.terms(0, 13);
        int tries = x.count(4);
        due("2 and 50 and 13", putSmooth(x, 11), 11);
        due("count(4)", x.count(4), tries + 3);
        due("count(5)", x.count(5), 1);
        x = new PackedPages();
        x.terms(0, 0);
        for (int key = 0; key < 6; key++) putRough(x, key);
        due("2 and 61 and 0", x.alter(0, 0, rough(0)[0] ^ 1), 1);
        due("put, 2 and 63 and 0", put(x, 6), 11);
        due("count(5)", x.count(5), 1);
    }

    private static void alwaysFits() {
        PackedPages x = new PackedPages();
        x.terms(0, 16);
        x.terms(1, 1);
        x.terms(2, 0);
        for (int key = 0; key < 4; key++) putRough(x, key);
        due("five do not fit", putRough(x, 4), 11);
        for (int i = 0; i < x.count(1); i++) due("two or three do", x.page(i, 2) <= 3 ? 1 : 0, 1);
        PackedPages y = new PackedPages();
        y.terms(0, 16);
        putRough(y, 3);
        due("one does", y.compact(), 1);
        due("page(0, 5)", y.page(0, 5), 11);
        y.erase(3);
        due("none does", y.compact(), 1);
        due("page(0, 5)", y.page(0, 5), 0);
    }

    private static void zeroBehind() {
        PackedPages x = new PackedPages();
        x.terms(0, 0);
        for (int key = 0; key < 6; key++) putSmooth(x, key);
        x.erase(5);
        due("page(0, 8)", x.page(0, 8), 0);
        due("alter, spread", x.alter(0, 0, 9), 1);
        int packed = x.page(0, 5);
        due("page(0, 6)", x.page(0, 6), 0);
        for (int k = 2 + packed; k < 64; k++) due("block(0, " + k + ")", x.block(0, k), 0);
        PackedPages y = twoPages();
        for (int p = 0; p < 2; p++) for (int k = 2 + y.page(p, 5); k < 64; k++) due("block", y.block(p, k), 0);
    }

    private static void halves() {
        PackedPages x = twoPages();
        due("13: 6", x.page(0, 2), 6);
        due("13: and 7", x.page(1, 2), 7);
        due("page(1, 1)", x.page(1, 1), 60);
        PackedPages y = new PackedPages();
        y.terms(0, 16);
        for (int key = 0; key < 5; key++) putRough(y, key);
        due("5: 2", y.page(0, 2), 2);
        due("5: and 3", y.page(1, 2), 3);
        PackedPages z = threeParts();
        due("alter", z.alter(0, 0, rough(0)[0] ^ 1), 12);
        int[] sizes = {2, 3, 6}, fences = {0, 2, 100};
        for (int i = 0; i < 3; i++) {
            due("11: 5, of them 2 and 3, and 6", z.page(i, 2), sizes[i]);
            due("page(" + i + ", 1)", z.page(i, 1), fences[i]);
            due("the first half has its numbers first", z.page(i, 0), i);
        }
        due("count(4)", z.count(4), 5);
        due("count(5)", z.count(5), 2);
        halvesOfHalvesOfHalves();
    }

    /** A value that repeats its key and length, which packs well beside others of its kind. */
    private static int[] alike(int key, int n) {
        int[] row = new int[n];
        for (int i = 0; i < n; i++) row[i] = i % 2 == 0 ? key : n;
        return row;
    }

    /** FULL 56: 24 records come to be 130; 12 of them 72, of these 6 are 60; the other 12 are 58. */
    private static void halvesOfHalvesOfHalves() {
        List<int[]> entries = new ArrayList<>();
        for (int key = 0; key < 5; key++) entries.add(joined(new int[] {0x18, key}, alike(key, 8)));
        for (int key = 10; key < 16; key++) entries.add(new int[] {0x10, key});
        for (int key = 20; key < 32; key++) entries.add(joined(new int[] {key < 25 ? 0x14 : 0x12, key}, alike(key, key < 25 ? 4 : 2)));
        PackedPages x = padded(32, joined(entries.toArray(new int[0][])));
        due("count(3)", x.count(3), 64);
        due("put(5)", put(x, 5, alike(5, 8)), 14);
        int[] sizes = {3, 3, 6, 6, 6}, fences = {0, 3, 10, 20, 26};
        for (int i = 0; i < 5; i++) {
            due("page(" + i + ", 2)", x.page(i, 2), sizes[i]);
            due("page(" + i + ", 1)", x.page(i, 1), fences[i]);
            due("page(" + i + ", 0)", x.page(i, 0), i == 0 ? 0 : 3 + i);
        }
        dueCounts(x, 3, 64, 5, 0, 2);
        for (int key = 20; key < 32; key++) dueValue(x, key, alike(key, key < 25 ? 4 : 2));
    }

    /** 6 records without bytes packed in 6 bytes and 5 rough ones in the log; RESERVE 16: these five do not fit. */
    private static PackedPages threeParts() {
        PackedPages x = new PackedPages();
        x.terms(0, 0);
        x.terms(1, 16);
        for (int key = 100; key < 106; key++) put(x, key);
        x.compact();
        due("page(0, 5)", x.page(0, 5), 6);
        for (int key = 0; key < 5; key++) due("put", putRough(x, key), 0);
        due("page(0, 8)", x.page(0, 8), 6);
        due("count(4)", x.count(4), 0);
        x.terms(0, 16);
        return x;
    }

    private static void firstKeepsItsPlace() {
        PackedPages x = tenPages();
        for (int key = 0; key < 24; key += 6) if (key > 0) x.erase(key);
        for (int key = 216; key < 240; key += 6) x.erase(key);
        due("count(1)", x.count(1), 9);
        x.erase(96);
        due("page 4 has key 102 first", x.next(96), 102);
        putRough(x, 103);
        due("page 4 spread", putRough(x, 104), 11);
        due("page(4, 0)", x.page(4, 0), 4);
        due("page(4, 1), its fence stays", x.page(4, 1), 96);
        due("page(5, 0)", x.page(5, 0), 9);
        due("page(5, 1), its lowest key", x.page(5, 1), x.next(x.page(5, 1)));
        due("value(96, 1)", x.value(96, 1), 4);
    }

    private static void lowestFree() {
        PackedPages x = tenPages();
        for (int page : new int[] {7, 3, 5}) for (int key = 24 * page; key < 24 * page + 24; key += 6) x.erase(key);
        due("count(1)", x.count(1), 7);
        due("put(1), page 0 spread", putRough(x, 1), 11);
        due("the lowest free", x.page(1, 0), 3);
        due("its lowest key", x.page(1, 1), 6);
        due("put(217), page 9 spread", putRough(x, 217), 11);
        due("the next", x.page(x.count(1) - 1, 0), 5);
        due("its lowest key", x.page(x.count(1) - 1, 1), 222);
        due("put(25), page 1 spread", putRough(x, 25), 11);
        due("the last", x.page(3, 0), 7);
        due("put(49)", putRough(x, 49), -5);
    }

    private static void notSoManyFree() {
        for (int free = 0; free < 4; free++) {
            PackedPages x = tenPages();
            for (int page = 9; page > 9 - free; page--) for (int key = 24 * page; key < 24 * page + 24; key += 6) x.erase(key);
            makeThreeParts(x);
            due("count(1)", x.count(1), 10 - free);
            int[] before = disk(x);
            due("alter, with " + free + " free", x.alter(0, 0, rough(0)[0] ^ 1), free < 2 ? -5 : 12);
            if (free < 2) dueDisk("with " + free + " free", x, before);
            due("count(1)", x.count(1), free < 2 ? 10 - free : 12 - free);
        }
    }

    /** Page 0 of ten has six records without bytes packed then, five rough ones in its log: with RESERVE 16 that comes apart into three. */
    private static void makeThreeParts(PackedPages x) {
        x.terms(0, 0);
        for (int key = 0; key < 24; key += 6) due("erase", x.erase(key), 0);
        for (int key = 18; key < 23; key++) put(x, key);
        put(x, 23, 1);
        due("put(23), no room in the log", put(x, 23), 1);
        due("page(0, 5)", x.page(0, 5), 6);
        for (int key = 0; key < 5; key++) due("put", putRough(x, key), 0);
        x.terms(0, 16);
    }

    // ---- what is learned

    private static void learning() {
        sentence("PADDING (0 at first): a TRY that does not FIT is FAILED.", DiskBoundaryTest::failedTries);
        sentence("With as many TRIES as ROUND or more since the latest such", DiskBoundaryTest::endOfARound);
        sentence("if FAILED ones by 100 are more than LIMIT times TRIES, PADDING is STRIDE more", DiskBoundaryTest::moreThanLimit);
        sentence("(64 at most), CALM 0", DiskBoundaryTest::mostPadding);
        sentence("when it is 3, PADDING is STRIDE less (0 at least), CALM 0", DiskBoundaryTest::calmThrice);
        sentence("TRIES, FAILED are 0 then", DiskBoundaryTest::roundsBeginAnew);
    }

    private static void failedTries() {
        PackedPages x = oneTryAnAlter();
        dueCounts(x, 3, 0, 0, 0, 0);
        due("alter: a TRY that FITS", tryOnce(x), 1);
        dueCounts(x, 3, 0, 1, 0, 0);
        due("put: one that does not, two that do", putRough(x, 9), 11);
        dueCounts(x, 3, 0, 4, 1, 0);
    }

    private static void endOfARound() {
        for (int round = 1; round <= 16; round++) {
            PackedPages x = oneTryAnAlter();
            x.terms(1, round);
            for (int i = 1; i < round; i++) {
                due("alter", tryOnce(x), 1);
                dueCounts(x, 4, i, 0, 0);
            }
            due("alter", tryOnce(x), 1);
            dueCounts(x, 4, 0, 0, 1);
        }
        PackedPages x = oneTryAnAlter();
        x.terms(1, 16);
        for (int i = 0; i < 5; i++) tryOnce(x);
        x.terms(1, 3);
        dueCounts(x, 4, 5, 0, 0);
        tryOnce(x);
        dueCounts(x, 4, 0, 0, 1);
    }

    private static void moreThanLimit() {
        int[][] limits = {{33, 8}, {34, 0}, {0, 8}, {100, 0}};
        for (int[] limit : limits) {
            PackedPages x = oneTryAnAlter();
            x.terms(1, 3);
            x.terms(2, limit[0]);
            due("put: one of three FAILED", putRough(x, 9), 11);
            dueCounts(x, 3, limit[1], 0, 0, limit[1] > 0 ? 0 : 1);
        }
        for (int limit = 49; limit <= 50; limit++) {
            PackedPages x = oneTryAnAlter();
            x.terms(1, 4);
            x.terms(2, limit == 49 ? 24 : 25);
            tryOnce(x);
            putRough(x, 9);
            due("one of four FAILED: 100 are more than 96, not than 100", x.count(3), limit == 49 ? 8 : 0);
        }
        PackedPages x = oneTryAnAlter();
        x.terms(1, 1);
        x.terms(2, 99);
        x.terms(3, 1);
        putRough(x, 9);
        due("one of one FAILED: 100 are more than 99", x.count(3), 1);
        x = oneTryAnAlter();
        x.terms(1, 1);
        x.terms(2, 100);
        putRough(x, 9);
        due("one of one FAILED: 100 are not more than 100", x.count(3), 0);
        x = oneTryAnAlter();
        x.terms(1, 1);
        x.terms(2, 0);
        tryOnce(x);
        due("none FAILED: 0 are not more than 0", x.count(3), 0);
        due("count(6)", x.count(6), 1);
    }

    private static void mostPadding() {
        PackedPages x = padded(30);
        dueCounts(x, 3, 60, 0, 0, 2);
        x.terms(0, 16);
        x.terms(1, 1);
        due("five in a page of 56 at most", putRough(x, 190) >= 0 && putRough(x, 200) >= 11 ? 1 : 0, 1);
        due("count(3), 64 and no more", x.count(3), 64);
        x = padded(32);
        due("count(3)", x.count(3), 64);
        x.terms(0, 16);
        x.terms(1, 1);
        putRough(x, 190);
        due("spread", putRough(x, 200) >= 11 ? 1 : 0, 1);
        due("count(3), 64 and no more", x.count(3), 64);
        due("count(6)", x.count(6), 2);
    }

    private static void calmThrice() {
        PackedPages x = oneTryAnAlter();
        x.terms(1, 1);
        x.terms(2, 0);
        x.terms(3, 5);
        putRough(x, 9);
        dueCounts(x, 3, 5, 0, 0, 2);
        x.terms(3, 4);
        tryIn(x);
        dueCounts(x, 3, 1, 0, 0, 0);
        tryIn(x);
        dueCounts(x, 3, 1, 0, 0, 1);
        tryIn(x);
        dueCounts(x, 3, 1, 0, 0, 2);
        tryIn(x);
        dueCounts(x, 3, 0, 0, 0, 0);
        for (int i = 1; i <= 3; i++) tryIn(x);
        due("0 at least", x.count(3), 0);
        due("count(6)", x.count(6), 0);
    }

    /** One TRY that FITS, whatever room there is in the log of key 0's page. */
    private static void tryIn(PackedPages x) {
        for (int i = 0; i < 40; i++) if (x.alter(0, 0, x.value(0, 2) ^ 1) == 1) return;
        due("a TRY", 0, 1);
    }

    private static void roundsBeginAnew() {
        PackedPages x = oneTryAnAlter();
        x.terms(1, 3);
        x.terms(2, 0);
        putRough(x, 9);
        dueCounts(x, 3, 8, 0, 0, 0);
        tryIn(x);
        dueCounts(x, 3, 8, 1, 0, 0);
        tryIn(x);
        tryIn(x);
        dueCounts(x, 3, 8, 0, 0, 1);
    }

    // ---- what is written

    private static void writing() {
        sentence("WRITTEN is BYTE by BYTE, those that are so already, too.", DiskBoundaryTest::alsoThoseThatAreSo);
        sentence("What is LOGGED, alone: the ENTRY's BYTES from its second on, at last its first.", DiskBoundaryTest::firstAtLast);
        sentence("All else THROUGH THE JOURNAL: there from 1 on how many BLOCKS, those that are told anew, by their PAGES' numbers, and the DIRECTORY; MARK 1; these BLOCKS, the DIRECTORY's BYTES; MARK 0.",
                DiskBoundaryTest::throughTheJournal);
        sentence("The FUSE (NONE at first: none): how many BYTES are still WRITTEN; each takes one", DiskBoundaryTest::fuseTakesOne);
        sentence("when there is none for a BYTE that is to be WRITTEN, that and all others are not: the store is DOWN, the FUSE is NONE, none is held; the call tells -7",
                DiskBoundaryTest::fuseAtItsEnd);
        sentence("(PADDING, TRIES, FAILED, CALM, what was UNPACKED are as if it had been done.)", DiskBoundaryTest::asIfDone);
    }

    private static void alsoThoseThatAreSo() {
        PackedPages x = new PackedPages();
        put(x, 0, 0, 0, 0);
        due("bytes of 0 over 0", x.written(), 5);
        x.compact();
        due("written()", x.written(), 138);
        x.compact();
        due("all as it is", x.written(), 138);
        x.fuse(137);
        due("each takes one", x.compact(), -7);
    }

    private static void firstAtLast() {
        for (int n = 0; n <= 5; n++) {
            PackedPages x = new PackedPages();
            x.fuse(n);
            int told = put(x, 9, 7, 8, 6);
            due("put with a fuse of " + n, told, n < 5 ? -7 : 0);
            due("written()", x.written(), n);
            int[] order = {3, 4, 5, 6, 2}, bytes = {9, 7, 8, 6, 0x13};
            for (int k = 0; k < 5; k++) due("block(0, " + order[k] + ") with a fuse of " + n, x.block(0, order[k]), k < n ? bytes[k] : 0);
        }
    }

    /** The bytes as they are written, one by one, over what is there: each a place on the disk and a byte. */
    private static List<int[]> journalWrites(int[] after, int pages, int... anew) {
        List<int[]> writes = new ArrayList<>();
        int at = 662;
        writes.add(new int[] {at++, anew.length});
        for (int p : anew) {
            writes.add(new int[] {at++, p});
            for (int k = 0; k < 64; k++) writes.add(new int[] {at++, after[64 * p + k]});
        }
        for (int k = 0; k < 1 + 2 * pages; k++) writes.add(new int[] {at++, after[640 + k]});
        writes.add(new int[] {661, 1});
        writes.addAll(inPlace(after, pages, anew));
        return writes;
    }

    private static List<int[]> inPlace(int[] after, int pages, int... anew) {
        List<int[]> writes = new ArrayList<>();
        for (int p : anew) for (int k = 0; k < 64; k++) writes.add(new int[] {64 * p + k, after[64 * p + k]});
        for (int k = 0; k < 1 + 2 * pages; k++) writes.add(new int[] {640 + k, after[640 + k]});
        writes.add(new int[] {661, 0});
        return writes;
    }

    /** Cut off at every place, what is on the disk is what was written by then. */
    private static void dueWrites(Supplier<PackedPages> store, Consumer<PackedPages> act, int... anew) {
        PackedPages whole = store.get();
        int[] before = disk(whole);
        act.accept(whole);
        due("status()", whole.status(), 0);
        int[] after = disk(whole);
        List<int[]> writes = journalWrites(after, whole.directory(0), anew);
        due("written()", whole.written(), writes.size());
        int[] now = before.clone();
        for (int n = 0; n < writes.size(); n++) {
            PackedPages x = store.get();
            x.fuse(n);
            act.accept(x);
            due("status() with a fuse of " + n, x.status(), -7);
            dueDisk("with a fuse of " + n, x, now);
            now[writes.get(n)[0]] = writes.get(n)[1];
        }
        dueSame("the disk", after, now);
    }

    private static PackedPages fullSecondPage() {
        PackedPages x = twoPages();
        x.terms(0, 0);
        for (int key = 121; key < 124; key++) putRough(x, key);
        return x;
    }

    /** Page 1 is free and page 2 in use: what is spread from page 2 goes to pages 1 and 2, told by their numbers. */
    private static PackedPages hole() {
        PackedPages x = new PackedPages();
        x.terms(0, 16);
        x.terms(2, 100);
        group(x, roughEntries(0, 1, 2, 3, 100, 101, 102, 103, 200, 201, 202, 203));
        due("compact()", x.compact(), 3);
        for (int key = 100; key < 104; key++) x.erase(key);
        due("directory(3)", x.directory(3), 2);
        return x;
    }

    private static void throughTheJournal() {
        dueWrites(DiskBoundaryTest::fullSecondPage, x -> putRough(x, 125), 1, 2);
        dueWrites(DiskBoundaryTest::hole, x -> putRough(x, 204), 1, 2);
        PackedPages x = hole();
        due("put(204)", putRough(x, 204), 11);
        due("directory(3), the first keeps its number", x.directory(3), 2);
        due("directory(5)", x.directory(5), 1);
        due("journal(2), by their numbers", x.journal(2), 1);
        due("journal(67)", x.journal(67), 2);
        dueWrites(DiskBoundaryTest::oneInTheLast, p -> p.erase(200));
        dueWrites(DiskBoundaryTest::hole, p -> group(p, 0x20, 0, 0x20, 200), 0, 2);
        dueWrites(DiskBoundaryTest::hole, PackedPages::compact, 0, 1);
    }

    private static PackedPages oneInTheLast() {
        PackedPages x = hole();
        for (int key = 201; key < 204; key++) x.erase(key);
        return x;
    }

    private static void fuseTakesOne() {
        PackedPages x = new PackedPages();
        due("count(9)", x.count(9), -1);
        put(x, 1, 1);
        due("count(9), none takes none", x.count(9), -1);
        x.fuse(5);
        put(x, 2, 1);
        due("count(9)", x.count(9), 2);
        put(x, 2, 1);
        x.fetch(1);
        x.would(0);
        due("count(9), what is not written takes none", x.count(9), 2);
        x.undo();
        due("count(9), undo() takes none", x.count(9), 2);
        x.fuse(138);
        due("compact()", x.compact(), 1);
        due("count(9)", x.count(9), 0);
        due("count(10)", x.count(10), 0);
    }

    private static void fuseAtItsEnd() {
        PackedPages x = new PackedPages();
        x.fuse(0);
        due("count(10), a fuse of 0 alone is not down", x.count(10), 0);
        due("put(1)", put(x, 1), -7);
        due("count(10)", x.count(10), 1);
        due("count(9)", x.count(9), -1);
        x.recover();
        put(x, 1);
        due("count(7)", x.count(7), 1);
        x.fuse(2);
        due("just enough", put(x, 2), 0);
        due("count(9)", x.count(9), 0);
        due("count(10)", x.count(10), 0);
        due("count(7)", x.count(7), 1);
        due("none for a byte", put(x, 3), -7);
        due("count(7), none is held", x.count(7), 0);
        due("status()", x.status(), -7);
        due("count(19)", x.count(19), 2);
        due("page(0, 9)", x.page(0, 9), -1);
        x.recover();
        due("page(0, 9)", x.page(0, 9), 0);
        for (int fuse = 0; fuse <= 138; fuse++) {
            PackedPages y = new PackedPages();
            y.fuse(fuse);
            due("compact() with a fuse of " + fuse, y.compact(), fuse < 138 ? -7 : 1);
            due("written()", y.written(), fuse);
            due("count(9)", y.count(9), fuse < 138 ? -1 : 0);
            due("count(10)", y.count(10), fuse < 138 ? 1 : 0);
        }
    }

    private static void asIfDone() {
        PackedPages x = oneTryAnAlter();
        x.terms(1, 4);
        x.terms(2, 24);
        tryOnce(x);
        int unpacked = x.count(8);
        x.fuse(0);
        due("put, cut off", putRough(x, 9), -7);
        dueCounts(x, 3, 8, 0, 0, 0);
        due("count(8)", x.count(8), unpacked);
        x.recover();
        dueCounts(x, 3, 8, 0, 0, 0);
        due("count(1), though it was not done", x.count(1), 1);
        x.fuse(0);
        due("alter, cut off", tryOnce(x), -7);
        dueCounts(x, 3, 8, 1, 0, 0);
        due("count(8)", x.count(8), unpacked + 1);
        x.recover();
        x.fuse(50);
        lay(x, 0x30, 4, 99, 0x30, 4, 98);
        due("group(), cut off", x.group(), -7);
        dueCounts(x, 3, 8, 3, 0, 0);
        x.recover();
        tryOnce(x);
        dueCounts(x, 3, 8, 0, 0, 1);
    }

    // ---- a group

    private static void groups() {
        sentence("(all are read ahead of any)", DiskBoundaryTest::readAheadOfAny);
        sentence("each done as an EDIT by what the ones ahead left (PADDING, too; LOGGED it is in the BLOCK then)", DiskBoundaryTest::byWhatTheOnesAheadLeft);
        sentence("if one can't be, none is", DiskBoundaryTest::noneIs);
        sentence("BLOCKS that differ from what they were, and the DIRECTORY (also if none differs)", DiskBoundaryTest::blocksThatDiffer);
    }

    private static void readAheadOfAny() {
        PackedPages x = new PackedPages();
        due("-6 at the end ahead of -2 at the start", group(x, 0x20, 1, 0x10, 2, 0x50, 3), -6);
        due("flaw()", x.flaw(), 4);
        due("the last is not whole", group(x, 0x20, 1, 0x11, 2), -6);
        due("flaw()", x.flaw(), 2);
        due("-2", group(x, 0x20, 1, 0x10, 2), -2);
        due("flaw()", x.flaw(), 0);
    }

    private static void byWhatTheOnesAheadLeft() {
        PackedPages x = new PackedPages();
        due("put, grow, alter, erase, put", group(x, 0x11, 1, 5, 0x41, 1, 6, 0x31, 1, 7, 0x20, 1, 0x12, 1, 7, 7), 5);
        dueBlock(x, 0, 2, 0x11, 1, 5, 0x41, 1, 6, 0x31, 1, 7, 0x20, 1, 0x12, 1, 7, 7, 0);
        due("erase twice", group(x, 0x20, 1, 0x20, 1), -2);
        due("alter twice", group(x, 0x30, 1, 9, 0x30, 1, 9), -4);
        due("grow twice, to 9", group(x, 0x44, 1, 1, 2, 3, 4, 0x43, 1, 1, 2, 3), -4);
        PackedPages y = oneTryAnAlter();
        y.terms(1, 1);
        y.terms(2, 0);
        y.terms(3, 32);
        due("would(2)", wouldBe(y, 2), 32);
        due("group()", y.group(), 3);
        dueCounts(y, 3, 32, 0, 0, 2);
        due("page(0, 2)", y.page(0, 2), 3);
    }

    private static int wouldBe(PackedPages x, int what) {
        lay(x, joined(roughEntries(9), new int[] {0x10, 10, 0x10, 11}));
        return x.would(what);
    }

    private static void noneIs() {
        PackedPages x = new PackedPages();
        put(x, 1, 1);
        int[] before = disk(x);
        due("the last can't be", group(x, 0x10, 2, 0x20, 1, 0x10, 3, 0x20, 4), -2);
        dueDisk("behind it", x, before);
        due("the first can't be", group(x, 0x11, 1, 1, 0x10, 2), -4);
        dueDisk("behind it", x, before);
        PackedPages y = tenPages();
        before = disk(y);
        int tries = y.count(4);
        due("no room for the last", group(y, joined(new int[] {0x10, 3}, roughEntries(200, 1))), -5);
        due("flaw()", y.flaw(), 2);
        dueDisk("behind it", y, before);
        due("count(4)", y.count(4), tries);
    }

    private static void blocksThatDiffer() {
        PackedPages x = tenPages();
        due("two pages of ten", group(x, 0x20, 216, 0x20, 0), 2);
        due("journal(1)", x.journal(1), 2);
        due("journal(2)", x.journal(2), 0);
        due("journal(67)", x.journal(67), 9);
        due("written()", x.written(), 3 + 258 + 42);
        PackedPages y = oneTryAnAlter();
        due("altered and back, packed anew each time", group(y, 0x30, 4, 9, 0x30, 4, 1), 2);
        due("journal(1)", y.journal(1), 0);
        due("written()", y.written(), 3 + 6);
        PackedPages z = oneInTheLast();
        z.compact();
        due("page(1, 2)", z.page(1, 2), 1);
        due("a page of one record goes, its block as it was", group(z, 0x20, 200), 1);
        due("count(1)", z.count(1), 1);
        due("journal(1)", z.journal(1), 0);
        due("written()", z.written(), 3 + 6);
    }

    // ---- compact

    private static void compacting() {
        sentence("each as many as can be, one by one as long as PLAIN is not above FULL and the SHAPE FITS (one always), an empty LOG", DiskBoundaryTest::asManyAsCanBe);
        sentence("the first FENCE 0, others the lowest KEY", DiskBoundaryTest::fencesThen);
        sentence("without any RECORD PAGE 0 alone", DiskBoundaryTest::compactNone);
        sentence("no room with more than 10", DiskBoundaryTest::compactEleven);
        sentence("no TRIES; THROUGH THE JOURNAL: all of these", DiskBoundaryTest::compactAll);
    }

    private static void asManyAsCanBe() {
        PackedPages x = twoPages();
        due("compact()", x.compact(), 2);
        due("120 of 120", x.page(0, 3), 120);
        due("page(1, 3)", x.page(1, 3), 10);
        x.erase(120);
        put(x, 120);
        x.erase(110);
        put(x, 110, 7, 7, 7, 7, 7, 7, 7);
        due("119 and 2", x.compact(), 2);
        due("page(0, 3)", x.page(0, 3), 119);
        x.terms(0, 12);
        PackedPages y = elevenSmooth();
        y.terms(0, 4);
        putSmooth(y, 11);
        y.terms(0, 12);
        due("2 and 50 and 12", y.compact(), 1);
        y.terms(0, 13);
        due("2 and 50 and 13", y.compact(), 2);
        due("page(0, 2)", y.page(0, 2), 11);
        due("page(1, 2)", y.page(1, 2), 1);
        due("count(2)", y.count(2), 0);
        y = padded(32);
        y.compact();
        due("FULL is 56", y.page(0, 3), 50);
        due("page(1, 3)", y.page(1, 3), 50);
        PackedPages z = longestLog();
        z.terms(0, 16);
        due("they fit by filter 3 alone", z.compact(), 1);
        due("page(0, 4)", z.page(0, 4), 3);
        due("page(0, 2)", z.page(0, 2), 31);
    }

    private static void fencesThen() {
        PackedPages x = tenPages();
        x.erase(0);
        x.terms(0, 4);
        due("compact(), five in each", x.compact(), 8);
        due("page(0, 1), though its lowest key is 6", x.page(0, 1), 0);
        for (int i = 1; i < 8; i++) {
            due("page(" + i + ", 0)", x.page(i, 0), i);
            due("page(" + i + ", 1)", x.page(i, 1), 6 + 30 * i);
            due("its lowest key", x.next(x.page(i, 1)), 6 + 30 * i);
        }
    }

    private static void compactNone() {
        PackedPages x = new PackedPages();
        due("compact()", x.compact(), 1);
        due("count(1)", x.count(1), 1);
        put(x, 9, 1);
        x.erase(9);
        due("page(0, 6)", x.page(0, 6), 2);
        due("compact()", x.compact(), 1);
        due("page(0, 6)", x.page(0, 6), 0);
        for (int k = 0; k < 64; k++) due("block(0, " + k + ")", x.block(0, k), 0);
        PackedPages y = twoPages();
        for (int key = 0; key < 60; key += 10) y.erase(key);
        for (int key = 60; key < 120; key += 10) y.erase(key);
        due("erase(120)", y.erase(120), 2);
        due("compact()", y.compact(), 1);
        due("page(0, 0)", y.page(0, 0), 0);
        due("page(0, 1)", y.page(0, 1), 0);
        due("count(0)", y.count(0), 0);
    }

    private static void compactEleven() {
        PackedPages x = tenPages();
        due("ten", x.compact(), 10);
        x.terms(0, 11);
        due("one more, in a log", putRough(x, 1), 0);
        x.terms(0, 16);
        int[] before = disk(x);
        int acts = x.count(11);
        due("eleven", x.compact(), -5);
        dueDisk("behind it", x, before);
        due("count(11)", x.count(11), acts);
        due("count(17)", x.count(17), 1);
        x.erase(234);
        due("ten again", x.compact(), 10);
    }

    private static void compactAll() {
        PackedPages x = tenPages();
        int[] learned = {x.count(3), x.count(4), x.count(5), x.count(6)};
        due("compact()", x.compact(), 10);
        dueCounts(x, 3, learned);
        due("all are written, though none differs", x.journal(1), 10);
        due("written()", x.written(), 3 + 1290 + 42);
        x.terms(0, 0);
        int[] before = disk(x);
        due("compact(), six in each", x.compact(), 7);
        dueCounts(x, 3, learned);
        due("journal(1)", x.journal(1), 7);
        due("written()", x.written(), 3 + 903 + 30);
        int[] after = disk(x);
        for (int k = 7 * 64; k < 640; k++) due("a free page's block stays, byte " + k, after[k], before[k]);
        for (int k = 15; k < 21; k++) due("directory(" + k + ") stays", x.directory(k), before[640 + k]);
    }

    // ---- to recover

    private static void recovering() {
        sentence("if MARK is 1, BLOCKS and the DIRECTORY are WRITTEN as the JOURNAL has them, MARK 0", DiskBoundaryTest::recoverByMark);
        sentence("Then of all PAGES IN USE, in ORDER, each BYTE behind the LOG's end that is not 0 is WRITTEN as 0.", DiskBoundaryTest::recoverLogs);
        sentence("It is not DOWN then.", DiskBoundaryTest::upAgain);
    }

    private static void recoverByMark() {
        PackedPages x = hole();
        int[] before = disk(x);
        x.fuse(65 * 2 + 1 + 5);
        due("compact(), cut off ahead of MARK 1", x.compact(), -7);
        due("journal(0)", x.journal(0), 0);
        int[] cut = disk(x);
        due("recover()", x.recover(), 0);
        dueDisk("behind recover()", x, cut);
        for (int k = 0; k < 661; k++) due("as it was, byte " + k, cut[k], before[k]);
        recoverNoBlock();
        recoverTenBlocks();
        recoverCutOff();
    }

    private static void recoverTenBlocks() {
        PackedPages x = tenPages();
        for (int key = 3; key < 240; key += 24) put(x, key);
        due("count(2)", x.count(2), 10);
        x.fuse(1 + 650 + 21 + 1);
        due("compact(), cut off behind MARK 1", x.compact(), -7);
        int[] cut = disk(x);
        due("recover()", x.recover(), 640 + 21 + 1);
        due("count(2)", x.count(2), 0);
        due("count(0)", x.count(0), 50);
        for (int p = 0; p < 10; p++) dueBlock(x, p, 0, Arrays.copyOfRange(cut, 664 + 65 * p, 664 + 65 * p + 64));
        for (int k = 0; k < 21; k++) due("directory(" + k + ")", x.directory(k), x.journal(652 + k));
    }

    /** A page that goes tells no BLOCK anew: the DIRECTORY alone is in the JOURNAL. */
    private static void recoverNoBlock() {
        PackedPages whole = oneInTheLast();
        due("erase(200)", whole.erase(200), 2);
        int[] after = disk(whole);
        for (int n = 5; n < 9; n++) {
            PackedPages x = oneInTheLast();
            x.fuse(n);
            due("erase(200), cut off", x.erase(200), -7);
            due("journal(0)", x.journal(0), 1);
            due("journal(1)", x.journal(1), 0);
            due("recover()", x.recover(), 4);
            dueDisk("behind recover()", x, after);
        }
    }

    private static void recoverCutOff() {
        PackedPages whole = hole();
        whole.compact();
        int[] after = disk(whole);
        List<int[]> writes = inPlace(after, 2, 0, 1);
        int mark = 65 * 2 + 1 + 5 + 1;
        for (int n = 0; n <= writes.size(); n += 1) {
            PackedPages x = hole();
            x.fuse(mark);
            due("compact(), cut off behind MARK 1", x.compact(), -7);
            int[] now = disk(x);
            x.fuse(n);
            due("recover() with a fuse of " + n, x.recover(), n < writes.size() ? -7 : writes.size());
            due("written()", x.written(), n);
            for (int k = 0; k < n; k++) now[writes.get(k)[0]] = writes.get(k)[1];
            dueDisk("recover() with a fuse of " + n, x, now);
            due("count(10)", x.count(10), n < writes.size() ? 1 : 0);
            if (n < writes.size()) due("recover(), once more", x.recover(), writes.size());
            dueDisk("behind recover()", x, after);
        }
    }

    private static void recoverLogs() {
        PackedPages x = tenPages();
        x.terms(0, 0);
        int[] before = disk(x);
        x.fuse(9);
        due("put(97), cut off ahead of its first byte", put(x, 97, 1, 0, 0, 2, 0, 3, 4, 0), -7);
        int[] cut = disk(x);
        int at = 4 * 64 + 43;
        due("the first byte", cut[at], 0);
        due("the key", cut[at + 1], 97);
        due("the last but one", cut[at + 8], 4);
        for (int n = 0; n <= 5; n++) {
            x.fuse(n);
            due("recover() with a fuse of " + n, x.recover(), n < 5 ? -7 : 5);
            due("written()", x.written(), n);
            int[] places = {1, 2, 5, 7, 8};
            int[] now = cut.clone();
            for (int k = 0; k < n; k++) now[at + places[k]] = 0;
            dueDisk("with a fuse of " + n, x, now);
            x.undo();
        }
        x.fuse(-1);
        due("recover()", x.recover(), 5);
        dueDisk("behind it", x, before);
    }

    private static void upAgain() {
        PackedPages x = downStore();
        due("count(10)", x.count(10), 1);
        x.fuse(0);
        due("recover(), nothing is to be written", x.recover(), 0);
        due("count(10)", x.count(10), 0);
        due("count(9)", x.count(9), 0);
        dueValue(x, 5, 1, 2);
        due("recover()", x.recover(), -3);
        x.fuse(1);
        x.erase(5);
        x.fuse(0);
        due("recover(), one byte is", x.recover(), -7);
        due("count(10)", x.count(10), 1);
        due("count(9)", x.count(9), -1);
        due("recover()", x.recover(), 1);
        due("count(10)", x.count(10), 0);
    }

    // ---- held

    private static void holding() {
        sentence("HELD: PAGES IN USE, FRAMES of them at most (none at first).", DiskBoundaryTest::framesAtMost);
        sentence("An EDIT that is told alone and not REFUSED by -1, -3 (the PAGE for its KEY), a fetch() not REFUSED by -1, -3 USES a PAGE", DiskBoundaryTest::whatUses);
        sentence("if there are FRAMES already the one USED the longest ago is HELD no more ahead of that", DiskBoundaryTest::longestAgo);
        sentence("Behind an EDIT alone PAGES that are not IN USE any more are HELD no more (others that were HELD stay, new ones are not HELD).", DiskBoundaryTest::freeOnesAreNot);
        sentence("Behind a GROUP, COMPACT, RECOVER, undo() that are not REFUSED none is HELD.", DiskBoundaryTest::noneBehind);
        sentence("Fewer FRAMES: those USED the longest ago are HELD no more at once.", DiskBoundaryTest::fewerFrames);
    }

    private static void dueHeld(PackedPages x, int... orders) {
        due("count(7)", x.count(7), orders.length);
        for (int i = 0; i < x.count(1); i++) {
            int order = i;
            due("page(" + i + ", 9)", x.page(i, 9), Arrays.stream(orders).anyMatch(o -> o == order) ? 1 : 0);
        }
    }

    private static void framesAtMost() {
        for (int frames = 1; frames <= 4; frames++) {
            PackedPages x = tenPages();
            x.terms(4, frames);
            dueHeld(x);
            for (int i = 0; i < 10; i++) {
                x.fetch(24 * i);
                due("count(7)", x.count(7), Math.min(i + 1, frames));
                for (int k = 0; k < 10; k++) due("page(" + k + ", 9)", x.page(k, 9), k <= i && k > i - frames ? 1 : 0);
            }
            due("count(8)", x.count(8), 10);
        }
        due("none at first", new PackedPages().page(0, 9), 0);
    }

    private static void whatUses() {
        PackedPages x = tenPagesNoRoom();
        int unpacked = x.count(8);
        x.terms(4, 1);
        x.fetch(24);
        due("fetch", x.page(1, 9), 1);
        x.fetch(49);
        due("fetch, -2", x.page(2, 9), 1);
        x.erase(73);
        due("erase, -2", x.page(3, 9), 1);
        x.alter(96, 0, rough(96)[0]);
        due("alter, -4", x.page(4, 9), 1);
        grow(x, 120, 1);
        due("grow, -4", x.page(5, 9), 1);
        put(x, 144, rough(144));
        due("put, -4", x.page(6, 9), 1);
        putRough(x, 5);
        due("status()", x.status(), -5);
        due("put, -5", x.page(0, 9), 1);
        due("count(8)", x.count(8), unpacked + 7);
        x.fetch(300);
        x.erase(-1);
        x.alter(24, 8, 0);
        x.alter(24, 0, 256);
        x.put(256);
        x.end(0);
        x.grow(24);
        due("-1 uses none", x.count(8), unpacked + 7);
        dueHeld(x, 0);
        x.fuse(0);
        x.erase(168);
        due("-7 has used", x.count(8), unpacked + 8);
        due("count(7)", x.count(7), 0);
        x.fetch(24);
        x.erase(24);
        due("-3 uses none", x.count(8), unpacked + 8);
    }

    private static void longestAgo() {
        PackedPages x = tenPages();
        x.terms(4, 3);
        for (int i = 0; i < 3; i++) x.fetch(24 * i);
        dueHeld(x, 0, 1, 2);
        x.fetch(0);
        due("count(8), held already", x.count(8), 3);
        x.fetch(72);
        dueHeld(x, 0, 2, 3);
        x.alter(48, 0, rough(48)[0] ^ 1);
        x.fetch(96);
        dueHeld(x, 2, 3, 4);
        x.fetch(120);
        dueHeld(x, 2, 4, 5);
        due("count(8)", x.count(8), 6);
        x.value(0, 0);
        x.page(0, 3);
        x.next(0);
        x.behind(0, 0, 0);
        x.packing(0, 0);
        due("on paper none is unpacked to be held", x.count(8), 6);
        dueHeld(x, 2, 4, 5);
    }

    private static void freeOnesAreNot() {
        PackedPages x = tenPages();
        x.terms(4, 4);
        for (int i : new int[] {8, 9, 0, 1}) x.fetch(24 * i);
        for (int key = 216; key < 240; key += 6) x.erase(key);
        due("count(1)", x.count(1), 9);
        dueHeld(x, 8, 0, 1);
        due("put(1), a new page", putRough(x, 1), 11);
        due("page(1, 0)", x.page(1, 0), 9);
        dueHeld(x, 9, 0, 2);
        x.fetch(6);
        dueHeld(x, 9, 0, 2, 1);
        for (int frames = 1; frames <= 4; frames++) {
            PackedPages y = oneInTheLast();
            y.terms(4, frames);
            y.fetch(0);
            due("erase(200), the page goes", y.erase(200), 2);
            due("count(7)", y.count(7), frames == 1 ? 0 : 1);
            due("page(0, 9)", y.page(0, 9), frames == 1 ? 0 : 1);
        }
    }

    private static void noneBehind() {
        PackedPages x = tenPages();
        x.fetch(0);
        due("group()", group(x, 0x20, 0), 1);
        dueHeld(x);
        x.fetch(24);
        due("group(), refused", group(x, 0x20, 0), -2);
        dueHeld(x, 1);
        due("compact()", x.compact(), 10);
        dueHeld(x);
        x.fetch(24);
        x.undo();
        dueHeld(x);
        x.fetch(24);
        due("recover(), refused", x.recover(), -3);
        dueHeld(x, 1);
        x.fuse(0);
        x.erase(24);
        x.recover();
        dueHeld(x);
        PackedPages y = tenPagesNoRoom();
        y.fetch(0);
        int held = y.count(7);
        due("compact(), refused", y.compact(), -5);
        due("count(7)", y.count(7), held);
        PackedPages z = new PackedPages();
        z.fetch(0);
        due("undo(), refused", z.undo(), -4);
        dueHeld(z, 0);
    }

    private static void fewerFrames() {
        PackedPages x = tenPages();
        x.terms(4, 4);
        for (int i = 0; i < 4; i++) x.fetch(24 * i);
        x.fetch(0);
        x.terms(4, 5);
        dueHeld(x, 0, 1, 2, 3);
        x.terms(4, 3);
        dueHeld(x, 0, 2, 3);
        x.terms(4, 1);
        dueHeld(x, 0);
        x.terms(4, 4);
        dueHeld(x, 0);
        x.fetch(24);
        dueHeld(x, 0, 1);
        due("count(8)", x.count(8), 5);
        x.terms(4, 2);
        dueHeld(x, 0, 1);
    }
}
