import java.util.Arrays;
import java.util.function.ToIntFunction;

/** Each sentence of Terms I and II that names a boundary case: a test of its own. */
public final class TermsBoundaryTest extends Stores {
    public static void main(String[] args) {
        records();
        refusals();
        filters();
        packing();
        unpacking();
        finish("Terms I, II");
    }

    // ---- I

    private static void records() {
        sentence("a KEY 0 .. 255", TermsBoundaryTest::endsOfKeys);
        sentence("a VALUE: a row of 0 .. 8 BYTES 0 .. 255", TermsBoundaryTest::endsOfValues);
        sentence("no two of one KEY", TermsBoundaryTest::oneRecordOfAKey);
        sentence("PAGES 0 .. 9", TermsBoundaryTest::tenPagesAtMost);
        sentence("those IN USE are in ORDER by rising FENCES", TermsBoundaryTest::orderByFences);
        sentence("the first FENCE is 0", TermsBoundaryTest::firstFence);
        sentence("a RECORD is in the last PAGE the FENCE of which is not above its KEY", TermsBoundaryTest::keyAtAFence);
        sentence("At first PAGE 0 alone is IN USE, without a RECORD.", TermsBoundaryTest::atFirst);
        sentence("PLAIN of some RECORDS: for each by rising KEYS its KEY, how many BYTES its VALUE has, these.", TermsBoundaryTest::plain);
        sentence("0 RESERVE 0 .. 16 (4 at first)", () -> endsOfTerm(0, 4, 0, 16));
        sentence("1 ROUND 1 .. 16 (8)", () -> endsOfTerm(1, 8, 1, 16));
        sentence("2 LIMIT 0 .. 100 (25)", () -> endsOfTerm(2, 25, 0, 100));
        sentence("3 STRIDE 1 .. 32 (8)", () -> endsOfTerm(3, 8, 1, 32));
        sentence("4 FRAMES 1 .. 4 (2)", () -> endsOfTerm(4, 2, 1, 4));
        sentence("The TAPE: 400 BYTES at most.", TermsBoundaryTest::fullTape);
    }

    private static void endsOfKeys() {
        for (int key : new int[] {0, 255}) {
            PackedPages x = new PackedPages();
            due("put", put(x, key, 1), 0);
            due("grow", grow(x, key, 2), 0);
            due("alter", x.alter(key, 0, 3), 0);
            due("fetch", x.fetch(key), 2);
            due("value", x.value(key, 0), 2);
            due("next", x.next(key), key);
            due("behind", x.behind(0, 3, key), 2);
            due("erase", x.erase(key), 0);
        }
        for (int key : new int[] {-1, 256, Integer.MIN_VALUE, Integer.MAX_VALUE}) {
            PackedPages x = new PackedPages();
            put(x, key & 255, 1);
            due("put " + key, put(x, key, 1), -1);
            due("grow " + key, grow(x, key, 1), -1);
            due("alter " + key, x.alter(key, 0, 2), -1);
            due("erase " + key, x.erase(key), -1);
            due("fetch " + key, x.fetch(key), -1);
            due("status()", x.status(), -1);
            due("value " + key, x.value(key, 0), -1);
            due("value " + key, x.value(key, 1), -1);
            due("next " + key, x.next(key), -1);
            if (key != -1) due("behind " + key, x.behind(0, 1, key), -1);
            due("count(13)", x.count(13), 5);
        }
    }

    private static void endsOfValues() {
        PackedPages x = new PackedPages();
        due("put, none", put(x, 1), 0);
        dueValue(x, 1);
        due("count(0)", x.count(0), 1);
        due("put, 8", put(x, 2, 0, 255, 0, 255, 0, 255, 0, 255), 0);
        dueValue(x, 2, 0, 255, 0, 255, 0, 255, 0, 255);
        due("value(2, 10)", x.value(2, 10), -1);
        due("put, 9", put(x, 3, 1, 2, 3, 4, 5, 6, 7, 8, 9), -1);
        due("grow, none to 8", grow(x, 1, 1, 2, 3, 4, 5, 6, 7, 8), 0);
        due("grow, 8 to 9", grow(x, 1, 9), -4);
        due("alter, byte 0", x.alter(1, 7, 0), 0);
        due("alter, byte 255", x.alter(1, 7, 255), 0);
        due("alter, byte 256", x.alter(1, 7, 256), -1);
        due("alter, byte -1", x.alter(1, 7, -1), -1);
        dueValue(x, 1, 1, 2, 3, 4, 5, 6, 7, 255);
    }

    private static void oneRecordOfAKey() {
        PackedPages x = new PackedPages();
        put(x, 9, 1, 2, 3);
        put(x, 9, 4);
        due("count(0)", x.count(0), 1);
        due("page(0, 2)", x.page(0, 2), 1);
        due("page(0, 3)", x.page(0, 3), 3);
        due("next(10)", x.next(10), -1);
        x.compact();
        dueBlock(x, 0, 0, 0, 4, 2, 9, 1, 4, 0);
    }

    private static void tenPagesAtMost() {
        PackedPages x = tenPages();
        due("count(1)", x.count(1), 10);
        for (int i = 0; i < 10; i++) due("page(" + i + ", 0)", x.page(i, 0), i);
        due("page(10, 0)", x.page(10, 0), -1);
        due("an eleventh", putRough(x, 1), -5);
        due("count(1)", x.count(1), 10);
    }

    private static void orderByFences() {
        PackedPages x = tenPages();
        for (int key = 216; key < 240; key += 6) x.erase(key);
        due("count(1)", x.count(1), 9);
        due("put(1), page 9 comes behind page 0", putRough(x, 1), 11);
        int[] numbers = {0, 9, 1, 2, 3, 4, 5, 6, 7, 8};
        int[] fences = {0, 6, 24, 48, 72, 96, 120, 144, 168, 192};
        for (int i = 0; i < 10; i++) {
            due("page(" + i + ", 0)", x.page(i, 0), numbers[i]);
            due("page(" + i + ", 1)", x.page(i, 1), fences[i]);
        }
    }

    private static void firstFence() {
        PackedPages x = new PackedPages();
        due("page(0, 1)", x.page(0, 1), 0);
        put(x, 200, 1);
        due("page(0, 1)", x.page(0, 1), 0);
        x.compact();
        due("page(0, 1), packed anew", x.page(0, 1), 0);
        for (int key = 201; key < 210; key++) putRough(x, key);
        due("more pages", x.count(1) > 1 ? 1 : 0, 1);
        due("page(0, 1), spread", x.page(0, 1), 0);
        due("value(0, 1)", x.value(0, 1), 0);
        x.compact();
        due("page(0, 1), packed anew", x.page(0, 1), 0);
    }

    private static void keyAtAFence() {
        PackedPages x = tenPages();
        for (int i = 1; i < 10; i++) {
            due("at the fence", x.value(24 * i, 1), i);
            due("below the fence", x.value(24 * i - 1, 1), i - 1);
            due("above the fence", x.value(24 * i + 1, 1), i);
        }
        due("value(0, 1)", x.value(0, 1), 0);
        due("value(255, 1)", x.value(255, 1), 9);
        x.terms(0, 0);
        put(x, 47, 1);
        due("put(47) is in page 1", x.page(1, 2), 5);
        put(x, 48, 1);
        due("put(48) is in page 2's log", x.page(2, 6), 1);
        put(x, 255, 1);
        due("put(255) is in page 9", x.page(9, 2), 5);
    }

    private static void atFirst() {
        PackedPages x = new PackedPages();
        due("count(1)", x.count(1), 1);
        due("page(0, 0)", x.page(0, 0), 0);
        due("page(0, 2)", x.page(0, 2), 0);
        due("page(1, 0)", x.page(1, 0), -1);
        due("count(0)", x.count(0), 0);
        due("next(0)", x.next(0), -1);
        for (int key = 0; key < 256; key++) {
            due("value", x.value(key, 0), -1);
            due("value", x.value(key, 1), 0);
        }
    }

    private static void plain() {
        PackedPages x = new PackedPages();
        due("of none", x.page(0, 3), 0);
        put(x, 30);
        due("of a value without bytes", x.page(0, 3), 2);
        put(x, 20, 5, 6, 9);
        due("page(0, 3)", x.page(0, 3), 7);
        put(x, 25, 1, 20, 7, 90, 14, 33, 2, 8);
        due("page(0, 3)", x.page(0, 3), 17);
        x.compact();
        dueBlock(x, 0, 0, 0, 18, 16, 20, 3, 5, 6, 9, 25, 8, 1, 20, 7, 90, 14, 33, 2, 8, 30, 0, 0);
    }

    private static void endsOfTerm(int what, int first, int low, int high) {
        PackedPages x = new PackedPages();
        due("at first", x.count(20 + what), first);
        due("the lowest", x.terms(what, low), first);
        due("too low", x.terms(what, low - 1), -1);
        due("count", x.count(20 + what), low);
        due("the highest", x.terms(what, high), low);
        due("too high", x.terms(what, high + 1), -1);
        due("far too high", x.terms(what, Integer.MAX_VALUE), -1);
        due("far too low", x.terms(what, Integer.MIN_VALUE), -1);
        due("count", x.count(20 + what), high);
        due("count(13)", x.count(13), 4);
        for (int other = 0; other < 5; other++)
            if (other != what) due("count", x.count(20 + other), new int[] {4, 8, 25, 8, 2}[other]);
    }

    private static void fullTape() {
        PackedPages x = new PackedPages();
        for (int n = 20; n <= 400; n += 20) due("feed", x.feed(n, n, n, n, n), n);
        due("feed", x.feed(1, 1, 1, 1, 1), -1);
        due("count(12)", x.count(12), 400);
        due("tape(399)", x.tape(399), 400 & 255);
        due("tape(400)", x.tape(400), -1);
    }

    // ---- the numbers by which a call is refused

    private static void refusals() {
        sentence("-1 a number that can't be", TermsBoundaryTest::byNumber);
        sentence("-2 there is no RECORD of that KEY", TermsBoundaryTest::byNoRecord);
        sentence("-3 the store is DOWN (or is not, for recover())", TermsBoundaryTest::byDown);
        sentence("-4 it can't be by what stands", TermsBoundaryTest::byWhatStands);
        sentence("-5 no room", TermsBoundaryTest::byNoRoom);
        sentence("-6 a TAPE that can't be read", TermsBoundaryTest::byTape);
        sentence("The first of these in that order, but -3 ahead of -2.", TermsBoundaryTest::firstOfThese);
        sentence("What is REFUSED changes nothing but what is told of it (HELD, TAPE: as told).", TermsBoundaryTest::nothingChanges);
    }

    private static void byNumber() {
        PackedPages x = new PackedPages();
        lay(x, 1);
        int[] answers = {x.terms(-1, 4), x.terms(5, 4), x.pack(-2), x.pack(4), x.unpack(-1), x.unpack(4), x.put(-1), x.put(256), x.grow(-1),
            x.alter(0, 8, 0), x.erase(256), x.fuse(-2), x.fetch(-1)};
        for (int answer : answers) due("answer", answer, -1);
        due("count(13)", x.count(13), answers.length);
    }

    private static void byNoRecord() {
        PackedPages x = new PackedPages();
        put(x, 7, 1);
        for (int key : new int[] {0, 6, 8, 255}) {
            due("grow", grow(x, key, 1), -2);
            due("alter", x.alter(key, 0, 1), -2);
            due("erase", x.erase(key), -2);
            due("fetch", x.fetch(key), -2);
            due("group", group(x, 0x20, key), -2);
        }
        due("count(14)", x.count(14), 20);
        x.erase(7);
        due("erase, once more", x.erase(7), -2);
    }

    private static void byDown() {
        PackedPages x = downStore();
        lay(x, 1);
        int[] answers = {x.put(5), x.grow(5), x.alter(5, 0, 9), x.erase(5), x.group(), x.compact(), x.fetch(5)};
        for (int answer : answers) due("answer", answer, -3);
        due("status()", x.status(), -3);
        due("count(15)", x.count(15), 7);
        due("terms", x.terms(0, 4), 4);
        due("pack", x.pack(0), 2);
        due("unpack", x.unpack(0), 1);
        due("fuse", x.fuse(-1), -1);
        due("recover()", x.recover(), 0);
        due("recover()", x.recover(), -3);
        due("count(15)", x.count(15), 8);
    }

    private static void byWhatStands() {
        PackedPages x = new PackedPages();
        due("undo()", x.undo(), -4);
        put(x, 1, 1);
        due("put", put(x, 1, 1), -4);
        due("grow", grow(x, 1, 1, 2, 3, 4, 5, 6, 7, 8), -4);
        due("alter", x.alter(1, 0, 1), -4);
        due("alter", x.alter(1, 1, 1), -4);
        due("group", group(x, 0x11, 1, 1), -4);
        due("status()", x.status(), -4);
        due("count(16)", x.count(16), 6);
    }

    private static void byNoRoom() {
        PackedPages x = tenPagesNoRoom();
        due("put", putRough(x, 4), -5);
        due("grow", grow(x, 2, 1), -5);
        due("alter", x.alter(1, 0, rough(1)[0] ^ 1), -5);
        due("erase", x.erase(0), -5);
        due("group", group(x, 0x20, 0), -5);
        due("compact", x.compact(), -5);
        lay(x, roughRow(397));
        due("pack", x.pack(0), -5);
        due("status()", x.status(), -5);
        due("count(17)", x.count(17), 7);
    }

    private static void byTape() {
        PackedPages x = new PackedPages();
        due("group, empty", x.group(), -6);
        due("group", group(x, 0x50), -6);
        lay(x, 128);
        due("unpack", x.unpack(0), -6);
        due("status()", x.status(), -6);
        due("count(18)", x.count(18), 3);
    }

    private static void firstOfThese() {
        PackedPages down = downStore();
        lay(down, 1, 2, 3, 4, 5, 6, 7, 8, 9);
        due("-1 ahead of -3, put", down.put(0), -1);
        due("-1 ahead of -3, grow", down.grow(0), -1);
        due("-1 ahead of -3, alter", down.alter(0, 8, 0), -1);
        due("-1 ahead of -3, erase", down.erase(256), -1);
        due("-1 ahead of -3, fetch", down.fetch(256), -1);
        lay(down, 1);
        due("-3 ahead of -2, grow", down.grow(9), -3);
        due("-3 ahead of -2, alter", down.alter(9, 0, 0), -3);
        due("-3 ahead of -2, erase", down.erase(9), -3);
        due("-3 ahead of -2, fetch", down.fetch(9), -3);
        due("-3 ahead of -4, alter", down.alter(5, 0, 1), -3);
        due("-3 ahead of -6, group", down.group(), -3);
        PackedPages x = tenPagesNoRoom();
        due("-2 ahead of -4, alter", x.alter(4, 7, 0), -2);
        due("-2 ahead of -4, grow", grow(x, 4, 1, 2, 3, 4, 5, 6, 7, 8), -2);
        due("-4 ahead of -5, put", put(x, 1, rough(1)), -4);
        due("-4 ahead of -5, alter", x.alter(1, 0, rough(1)[0]), -4);
        due("-4 ahead of -5, grow", grow(x, 1, 1), -4);
        lay(x, roughRow(400));
        due("-1 ahead of -5, pack", x.pack(4), -1);
        lay(x, 0);
        due("-1 ahead of -6, unpack", x.unpack(4), -1);
    }

    /** The store, the call, what refuses it, whether a page is used, whether the tape is empty then. */
    private static void refused(PackedPages x, String call, ToIntFunction<PackedPages> act, int by, boolean uses, boolean empties) {
        int[] disk = disk(x), held = held(x), rest = rest(x);
        int flaw = x.flaw(), told = x.count(12 - by);
        due(call, act.applyAsInt(x), by);
        dueDisk("behind " + call, x, disk);
        if (!uses) dueSame("what is held behind " + call, held(x), held);
        if (empties) rest = Arrays.copyOf(rest, 20);
        if (empties) rest[10] = 0;
        dueSame("all else behind " + call, rest(x), rest);
        if (by != -6 && !call.startsWith("group")) due("flaw() behind " + call, x.flaw(), flaw);
        due("status() behind " + call, x.status(), by);
        due("count behind " + call, x.count(12 - by), told + 1);
    }

    private static void nothingChanges() {
        PackedPages x = tenPagesNoRoom();
        x.fuse(500);
        x.fetch(100);
        lay(x, 1, 2, 3);
        refused(x, "terms(5, 0)", p -> p.terms(5, 0), -1, false, false);
        refused(x, "terms(0, 17)", p -> p.terms(0, 17), -1, false, false);
        refused(x, "pack(4)", p -> p.pack(4), -1, false, false);
        refused(x, "unpack(4)", p -> p.unpack(4), -1, false, false);
        refused(x, "put(256)", p -> p.put(256), -1, false, false);
        refused(x, "grow(256)", p -> p.grow(256), -1, false, false);
        refused(x, "alter(1, 8, 0)", p -> p.alter(1, 8, 0), -1, false, false);
        refused(x, "erase(256)", p -> p.erase(256), -1, false, false);
        refused(x, "fuse(-2)", p -> p.fuse(-2), -1, false, false);
        refused(x, "fetch(256)", p -> p.fetch(256), -1, false, false);
        refused(x, "grow(4)", p -> p.grow(4), -2, true, false);
        refused(x, "alter(4, 0, 0)", p -> p.alter(4, 0, 0), -2, true, false);
        refused(x, "erase(4)", p -> p.erase(4), -2, true, false);
        refused(x, "fetch(4)", p -> p.fetch(4), -2, true, false);
        refused(x, "recover()", p -> p.recover(), -3, false, false);
        refused(x, "grow(1)", p -> p.grow(1), -4, true, false);
        refused(x, "alter(1, 0, as it is)", p -> p.alter(1, 0, rough(1)[0]), -4, true, false);
        refused(x, "put(9)", p -> p.put(9), -5, true, false);
        refused(x, "alter(1, 0, other)", p -> p.alter(1, 0, rough(1)[0] ^ 1), -5, true, false);
        refused(x, "erase(0)", p -> p.erase(0), -5, true, false);
        x.end(1);
        refused(x, "grow(2)", p -> p.grow(2), -5, true, false);
        groupsChangeNothing(x);
        tapesStay(x);
        downChangesNothing();
    }

    private static void groupsChangeNothing(PackedPages x) {
        x.fetch(1);
        x.fetch(100);
        lay(x, 0x20, 216, 0x20, 217);
        refused(x, "group(), -2", p -> p.group(), -2, false, true);
        lay(x, 0x20, 216, 0x10, 217, 0x10, 217);
        refused(x, "group(), -4", p -> p.group(), -4, false, true);
        lay(x, joined(new int[] {0x30, 234, 1}, roughEntries(7)));
        refused(x, "group(), -5", p -> p.group(), -5, false, true);
        lay(x, 0x20, 216, 0x20);
        refused(x, "group(), -6", p -> p.group(), -6, false, true);
        refused(x, "group(), empty tape", p -> p.group(), -6, false, true);
        refused(x, "compact()", p -> p.compact(), -5, false, false);
    }

    private static void tapesStay(PackedPages x) {
        lay(x, roughRow(400));
        refused(x, "pack(0)", p -> p.pack(0), -5, false, false);
        refused(x, "pack(-1)", p -> p.pack(-1), -5, false, false);
        lay(x, 2, 1, 2, 3, 130);
        refused(x, "unpack(0)", p -> p.unpack(0), -6, false, false);
        for (int i = 0; i < 16 && x.count(11) > 0; i++) x.undo();
        refused(x, "undo()", p -> p.undo(), -4, false, false);
    }

    private static void downChangesNothing() {
        PackedPages x = downStore();
        lay(x, 0x10, 3);
        x.fuse(7);
        refused(x, "put(1)", p -> p.put(1), -3, false, false);
        refused(x, "grow(5)", p -> p.grow(5), -3, false, false);
        refused(x, "alter(5, 0, 9)", p -> p.alter(5, 0, 9), -3, false, false);
        refused(x, "erase(5)", p -> p.erase(5), -3, false, false);
        refused(x, "group(), -3", p -> p.group(), -3, false, false);
        refused(x, "compact()", p -> p.compact(), -3, false, false);
        refused(x, "fetch(5)", p -> p.fetch(5), -3, false, false);
    }

    // ---- II

    private static void filters() {
        sentence("II. FILTERS 0 .. 3 of a row of BYTES", TermsBoundaryTest::endsOfFilters);
        sentence("modulo 256 (0 stands for what is ahead of the first)", TermsBoundaryTest::wrapAround);
        sentence("0 the BYTE; 1 the BYTE less the one ahead; 2 the BYTE and the one ahead by exclusive or; 3 the BYTE less the one two ahead",
                TermsBoundaryTest::eachFilter);
        sentence("(ahead: as it was, not as it came out)", TermsBoundaryTest::aheadAsItWas);
    }

    private static void duePacked(int filter, int[] row, int... want) {
        PackedPages x = new PackedPages();
        lay(x, row);
        due("pack(" + filter + ")", x.pack(filter), want.length);
        dueTape(x, want);
        int back = filter == -1 ? 0 : filter;
        due("unpack(" + back + ")", x.unpack(back), row.length);
        dueTape(x, row);
    }

    private static int[] row(int... bytes) { return bytes; }

    private static void endsOfFilters() {
        PackedPages x = new PackedPages();
        put(x, 1, 1);
        for (int filter = 0; filter < 4; filter++) {
            lay(x, 1, 2);
            due("pack(" + filter + ")", x.pack(filter), 3);
            due("unpack(" + filter + ")", x.unpack(filter), 2);
            due("packing(0, " + filter + ")", x.packing(0, filter), 4);
        }
        for (int filter : row(-2, 4, 255, Integer.MIN_VALUE, Integer.MAX_VALUE)) {
            due("pack(" + filter + ")", x.pack(filter), -1);
            due("unpack(" + filter + ")", x.unpack(filter), -1);
            due("packing(0, " + filter + ")", x.packing(0, filter), -1);
        }
        due("pack(-1), NONE", x.pack(-1), 3);
        due("unpack(-1)", x.unpack(-1), -1);
        due("packing(0, -1)", x.packing(0, -1), -1);
    }

    private static void wrapAround() {
        duePacked(1, row(255, 0, 254, 1), 3, 255, 1, 254, 3);
        duePacked(3, row(200, 255, 0, 1), 3, 200, 255, 56, 2);
        duePacked(2, row(255, 0, 255, 1), 3, 255, 255, 255, 254);
        for (int filter = 0; filter < 4; filter++) {
            duePacked(filter, row(9), 0, 9);
            duePacked(filter, row(255), 0, 255);
        }
        duePacked(3, row(9, 5), 1, 9, 5);
        duePacked(1, row(9, 5), 1, 9, 252);
        duePacked(2, row(9, 5), 1, 9, 12);
    }

    private static void eachFilter() {
        int[] plain = row(1, 3, 7, 100, 50);
        duePacked(0, plain, 4, 1, 3, 7, 100, 50);
        duePacked(1, plain, 4, 1, 2, 4, 93, 206);
        duePacked(2, plain, 4, 1, 2, 4, 99, 86);
        duePacked(3, plain, 4, 1, 3, 6, 97, 43);
    }

    private static void aheadAsItWas() {
        duePacked(1, row(10, 30, 70), 2, 10, 20, 40);
        duePacked(2, row(1, 2, 4), 2, 1, 3, 6);
        duePacked(3, row(10, 0, 30, 0, 70), 4, 10, 0, 20, 0, 40);
    }

    private static void packing() {
        sentence("3 at least, 130 at most", TermsBoundaryTest::lengthOfALike);
        sentence("d 1 .. 127", TermsBoundaryTest::distanceOfALike);
        sentence("(both rows may have BYTES in common)", () -> duePacked(0, row(1, 2, 1, 2, 1, 2, 1), 1, 1, 2, 130, 2));
        sentence("the longest is taken", TermsBoundaryTest::longestLike);
        sentence("of like long ones that of the least d", TermsBoundaryTest::leastDistance);
        sentence("it goes on behind these n", () -> duePacked(0, row(1, 2, 3, 1, 2, 3, 9, 2, 3, 9), 2, 1, 2, 3, 128, 3, 0, 9, 128, 3));
        sentence("A BYTE at which there is no LIKE is SINGLE.", () -> duePacked(0, row(1, 2, 1, 2, 3, 1), 5, 1, 2, 1, 2, 3, 1));
        sentence("SINGLE ones that stand side by side are told as one BYTE, how many there are less 1, and these", TermsBoundaryTest::singlesSideBySide);
        sentence("128 at most, then the next such row begins", TermsBoundaryTest::mostSingles);
        sentence("PLAIN of these by that FILTER by which PACKED has the fewest BYTES, the lowest.", TermsBoundaryTest::shapes);
    }

    private static void lengthOfALike() {
        duePacked(0, row(1, 2, 9, 1, 2), 4, 1, 2, 9, 1, 2);
        duePacked(0, row(1, 2, 3, 1, 2, 3), 2, 1, 2, 3, 128, 3);
        duePacked(0, repeated(5, 3), 2, 5, 5, 5);
        duePacked(0, repeated(5, 4), 0, 5, 128, 1);
        duePacked(0, repeated(5, 131), 0, 5, 255, 1);
        duePacked(0, repeated(5, 132), 0, 5, 255, 1, 0, 5);
        duePacked(0, repeated(5, 133), 0, 5, 255, 1, 1, 5, 5);
        duePacked(0, repeated(5, 134), 0, 5, 255, 1, 128, 1);
        duePacked(0, repeated(5, 261), 0, 5, 255, 1, 255, 1);
        PackedPages x = new PackedPages();
        lay(x, repeated(5, 400));
        x.pack(0);
        for (int n = 131; n >= 4; n--) {
            lay(x, repeated(5, n));
            due("pack(0) of " + n + " behind longer ones", x.pack(0), 4);
            dueTape(x, 0, 5, 125 + n - 1, 1);
        }
        lay(x, joined(roughRow(300), repeated(9, 100)));
        due("a LIKE behind 301 SINGLE ones", x.pack(0), 3 + 301 + 2);
        due("tape(304)", x.tape(304), 125 + 99);
        due("tape(305)", x.tape(305), 1);
    }

    private static void longestLike() {
        duePacked(0, row(1, 2, 3, 4, 9, 1, 2, 3, 8, 1, 2, 3, 4), 4, 1, 2, 3, 4, 9, 128, 5, 0, 8, 129, 9);
        // the farthest of many that begin with the same byte
        int[] many = new int[120];
        for (int i = 0; i < 120; i += 2) {
            many[i] = 1;
            many[i + 1] = 100 + i / 2;
        }
        int[] ahead = row(1, 2, 3, 4);
        duePacked(0, joined(ahead, many, ahead), joined(row(123), ahead, many, row(129, 124)));
    }

    private static int[] rising(int n) {
        int[] row = new int[n];
        for (int i = 0; i < n; i++) row[i] = i & 255;
        return row;
    }

    private static void distanceOfALike() {
        int[] near = joined(rising(127), row(0, 1, 2));
        duePacked(0, near, joined(row(126), rising(127), row(128, 127)));
        int[] far = joined(rising(128), row(0, 1, 2));
        duePacked(0, far, joined(row(127), rising(128), row(2, 0, 1, 2)));
        duePacked(0, row(8, 8, 8, 8), 0, 8, 128, 1);
    }

    private static void leastDistance() {
        duePacked(0, row(1, 2, 3, 8, 1, 2, 3, 9, 1, 2, 3), 3, 1, 2, 3, 8, 128, 4, 0, 9, 128, 4);
        duePacked(0, row(1, 2, 3, 8, 1, 2, 3, 9, 1, 2, 3, 7), 3, 1, 2, 3, 8, 128, 4, 0, 9, 128, 4, 0, 7);
        duePacked(0, row(1, 1, 1, 1, 1, 1, 1, 1), 0, 1, 132, 1);
    }

    private static void singlesSideBySide() {
        duePacked(0, row());
        duePacked(0, row(7), 0, 7);
        duePacked(0, row(7, 8), 1, 7, 8);
        duePacked(0, row(4, 7, 7, 7, 7, 5, 6), 1, 4, 7, 128, 1, 1, 5, 6);
    }

    private static void mostSingles() {
        int[] singles = rising(257);
        duePacked(0, rising(127), joined(row(126), rising(127)));
        duePacked(0, rising(128), joined(row(127), rising(128)));
        duePacked(0, rising(129), joined(row(127), rising(128), row(0, 128)));
        duePacked(0, rising(256), joined(row(127), rising(128), row(127), Arrays.copyOfRange(singles, 128, 256)));
        duePacked(0, singles, joined(row(127), rising(128), row(127), Arrays.copyOfRange(singles, 128, 256), row(0, 0)));
    }

    /** The shape of one record, which is the shortest and of like short ones the lowest. */
    private static void dueShape(int filter, int[] packed, int key, int... value) {
        PackedPages x = new PackedPages();
        put(x, key, value);
        x.compact();
        due("page(0, 4)", x.page(0, 4), filter);
        due("page(0, 5)", x.page(0, 5), packed.length);
        dueBlock(x, 0, 2, packed);
        for (int f = 0; f < 4; f++) due("packing(0, " + f + ") is too short", x.packing(0, f) < packed.length + (f < filter ? 1 : 0) ? 1 : 0, 0);
    }

    private static void shapes() {
        dueShape(0, row(4, 5, 3, 1, 2, 9), 5, 1, 2, 9);
        dueShape(1, row(3, 5, 0, 4, 1, 128, 1), 5, 9, 10, 11, 12, 13);
        dueShape(2, row(5, 9, 14, 7, 1, 2, 4, 128, 3), 9, 0, 1, 3, 7, 6, 4, 0);
        dueShape(3, row(5, 9, 8, 248, 2, 1, 10, 129, 2), 9, 1, 10, 2, 20, 3, 30, 4, 40);
        dueShape(0, row(1, 2, 3, 128, 2), 2, 2, 3, 2);
        dueShape(1, row(5, 250, 13, 251, 1, 127, 0, 128, 3), 250, 2, 3, 130, 130, 131, 2, 2);
        dueShape(1, row(1, 255, 4, 128, 2), 255, 2, 6, 5);
        PackedPages one = new PackedPages();
        put(one, 9, 1, 10, 2, 20, 3, 30, 4, 40);
        one.compact();
        due("page(0, 4)", one.page(0, 4), 3);
        put(one, 9, 1, 2, 9);
        one.compact();
        due("page(0, 4), whatever it was", one.page(0, 4), 0);
        one.undo();
        one.erase(9);
        due("compact(), none", one.compact(), 1);
        dueBlock(one, 0, 0, 0, 0, 0);
    }

    // ---- to unpack

    private static void unpacking() {
        sentence("below 128 one more and SINGLE ones, from 128 on n and d", TermsBoundaryTest::headsOfRows);
        sentence("that tells of so many SINGLE, of such an n that more than 400 would come out", TermsBoundaryTest::morethan400);
        sentence("a d of 0, above 127, above how many have come out by then", TermsBoundaryTest::wrongDistances);
        sentence("one that is missing (its place: how many there are)", TermsBoundaryTest::missing);
        sentence("A FLAW: the first BYTE (its place) at which it can't be", TermsBoundaryTest::firstFlaw);
        sentence("What comes out is turned back by the FILTER.", TermsBoundaryTest::turnedBack);
    }

    private static void dueUnpacked(int filter, int[] row, int... want) {
        PackedPages x = new PackedPages();
        lay(x, row);
        due("unpack(" + filter + ")", x.unpack(filter), want.length);
        due("flaw()", x.flaw(), -1);
        dueTape(x, want);
    }

    private static void dueFlaw(int place, int... row) {
        for (int filter = 0; filter < 4; filter++) {
            PackedPages x = new PackedPages();
            lay(x, row);
            due("unpack(" + filter + ")", x.unpack(filter), -6);
            due("flaw()", x.flaw(), place);
            dueTape(x, row);
        }
    }

    private static void headsOfRows() {
        dueUnpacked(0, row());
        dueUnpacked(0, row(0, 9), 9);
        dueUnpacked(0, joined(row(127), rising(128)), rising(128));
        dueUnpacked(0, row(0, 9, 128, 1), 9, 9, 9, 9);
        dueUnpacked(0, row(0, 9, 255, 1), repeated(9, 131));
    }

    private static void morethan400() {
        int[] out391 = row(0, 7, 255, 1, 255, 1, 255, 1);
        dueUnpacked(0, joined(out391, row(134, 1)), repeated(7, 400));
        dueFlaw(8, joined(out391, row(135, 1)));
        dueFlaw(8, joined(out391, row(255, 1)));
        dueUnpacked(0, joined(out391, row(8), repeated(7, 9)), repeated(7, 400));
        dueFlaw(8, joined(out391, row(9), repeated(7, 10)));
        dueFlaw(8, joined(out391, row(127), repeated(7, 128)));
        int[] out400 = joined(out391, row(134, 1));
        dueFlaw(10, joined(out400, row(0, 7)));
        dueFlaw(10, joined(out400, row(128, 1)));
    }

    private static void wrongDistances() {
        dueFlaw(3, 0, 7, 128, 0);
        dueUnpacked(0, joined(row(127), rising(128), row(128, 127)), joined(rising(128), row(1, 2, 3)));
        dueFlaw(130, joined(row(127), rising(128), row(128, 128)));
        dueFlaw(130, joined(row(127), rising(128), row(128, 255)));
        dueUnpacked(0, row(1, 7, 8, 128, 2), 7, 8, 7, 8, 7);
        dueFlaw(4, 1, 7, 8, 128, 3);
        dueFlaw(1, 128, 1);
    }

    private static void missing() {
        dueFlaw(1, 0);
        dueFlaw(1, 127);
        dueFlaw(4, 3, 1, 2, 3);
        dueUnpacked(0, row(3, 1, 2, 3, 4), 1, 2, 3, 4);
        dueFlaw(1, 128);
        dueFlaw(3, 0, 7, 200);
        dueFlaw(6, 0, 7, 128, 1, 1, 9);
    }

    private static void firstFlaw() {
        dueFlaw(3, 0, 7, 128, 0, 128, 0, 5);
        dueFlaw(8, 0, 7, 255, 1, 255, 1, 255, 1, 255, 0);
        dueFlaw(8, 0, 7, 255, 1, 255, 1, 255, 1, 9);
        dueFlaw(8, 0, 7, 255, 1, 255, 1, 255, 1, 255);
    }

    private static void turnedBack() {
        dueUnpacked(0, row(3, 255, 1, 254, 3), 255, 1, 254, 3);
        dueUnpacked(1, row(3, 255, 1, 254, 3), 255, 0, 254, 1);
        dueUnpacked(2, row(3, 255, 255, 255, 254), 255, 0, 255, 1);
        dueUnpacked(3, row(3, 200, 255, 56, 2), 200, 255, 0, 1);
        dueUnpacked(1, row(0, 5, 128, 1), 5, 10, 15, 20);
        dueUnpacked(3, row(1, 5, 6, 128, 2), 5, 6, 10, 12, 15);
    }
}
