import java.io.IOException;
import java.nio.file.Files;
import java.nio.file.Path;
import java.util.ArrayList;
import java.util.Arrays;
import java.util.List;

/** What the tests of promises and of sentences share: answers that are due, tapes, and stores in some state. */
abstract class Stores {
    private static int wrong = 0;
    private static int checks = 0;
    private static int sentences = 0;
    private static String subject = "";
    private static String document = null;

    static void about(String what) { subject = what; }

    static void due(String call, int got, int want) {
        checks++;
        if (got != want) {
            wrong++;
            System.out.println(subject + ": " + call + " answered " + got + ", due is " + want);
        }
    }

    /** Runs the test of one sentence, told in the document's own words. */
    static void sentence(String words, Runnable test) {
        about("\"" + words + "\"");
        sentences++;
        if (document == null) document = readDocument();
        // a warning alone: a document that was written anew is no fault of the class
        if (!document.isEmpty() && !document.contains(words)) System.out.println("not in the document any more: " + subject);
        int before = checks;
        test.run();
        due("some answer", checks > before ? 1 : 0, 1);
    }

    private static String readDocument() {
        String shared = System.getenv("SHARED");
        try {
            return Files.readString(Path.of(shared == null ? "../shared" : shared, "DOC.md"));
        } catch (IOException gone) {
            return "";
        }
    }

    static void finish(String what) {
        System.out.println(what + (sentences > 0 ? ", " + sentences + " sentences" : "") + ", " + checks + " answers, " + wrong + " not as due");
        if (wrong != 0) System.exit(1);
    }

    // ---- tapes

    /** Puts a row of bytes on the tape, in place of all there was. */
    static void lay(PackedPages x, int... row) {
        x.end(0);
        for (int from = 0; from < row.length; from += 20) {
            int[] n = new int[5];
            for (int k = 0; k < 20; k++) n[k / 4] = n[k / 4] << 8 | (from + k < row.length ? row[from + k] : 0);
            x.feed(n[0], n[1], n[2], n[3], n[4]);
        }
        x.end(row.length);
    }

    static int put(PackedPages x, int key, int... row) {
        lay(x, row);
        return x.put(key);
    }

    static int grow(PackedPages x, int key, int... row) {
        lay(x, row);
        return x.grow(key);
    }

    static int group(PackedPages x, int... row) {
        lay(x, row);
        return x.group();
    }

    /** Bytes that do not pack, other ones for each key. */
    static int[] rough(int key) {
        int[] row = new int[8];
        int state = key * 7919 + 12345;
        for (int i = 0; i < 8; i++) {
            state = state * 1103515245 + 12345;
            row[i] = state >>> 16 & 255;
        }
        return row;
    }

    static int putRough(PackedPages x, int key) { return put(x, key, rough(key)); }

    static int putSmooth(PackedPages x, int key) { return put(x, key, 7, 7, 7, 7, 7, 7, 7, 7); }

    static int[] repeated(int b, int n) {
        int[] row = new int[n];
        Arrays.fill(row, b);
        return row;
    }

    /** Bytes of which no three come again, by any filter. */
    static int[] roughRow(int n) {
        int[] row = new int[n];
        int state = 1;
        for (int i = 0; i < n; i++) {
            state = state * 1103515245 + 12345;
            row[i] = state >>> 16 & 255;
        }
        return row;
    }

    static int[] joined(int[]... rows) { return Arrays.stream(rows).flatMapToInt(Arrays::stream).toArray(); }

    /** Entries that put rough values, for a group. */
    static int[] roughEntries(int... keys) {
        int[][] rows = new int[keys.length][];
        for (int i = 0; i < keys.length; i++) rows[i] = joined(new int[] {0x18, keys[i]}, rough(keys[i]));
        return joined(rows);
    }

    static void dueTape(PackedPages x, int... row) {
        due("count(12)", x.count(12), row.length);
        for (int i = 0; i < row.length; i++) due("tape(" + i + ")", x.tape(i), row[i]);
    }

    static void dueValue(PackedPages x, int key, int... row) {
        due("value(" + key + ", 0)", x.value(key, 0), row.length);
        for (int i = 0; i < row.length; i++) due("value(" + key + ", " + (2 + i) + ")", x.value(key, 2 + i), row[i]);
    }

    static void dueBlock(PackedPages x, int page, int from, int... row) {
        for (int i = 0; i < row.length; i++) due("block(" + page + ", " + (from + i) + ")", x.block(page, from + i), row[i]);
    }

    static void dueCounts(PackedPages x, int from, int... counts) {
        for (int i = 0; i < counts.length; i++) due("count(" + (from + i) + ")", x.count(from + i), counts[i]);
    }

    // ---- stores

    /** A store that is down, with one record of key 5. */
    static PackedPages downStore() {
        PackedPages x = new PackedPages();
        put(x, 5, 1, 2);
        x.fuse(0);
        x.erase(5);
        return x;
    }

    /** Two pages: 0 with the keys 0, 10 .. 50, and 1 from 60 on. */
    static PackedPages twoPages() {
        PackedPages x = new PackedPages();
        for (int key = 0; key < 120; key += 10) putSmooth(x, key);
        due("count(1)", x.count(1), 1);
        due("put(120)", putSmooth(x, 120), 11);
        return x;
    }

    /** Ten pages in use, none with room for a rough record more. */
    static PackedPages crowded() {
        PackedPages x = new PackedPages();
        x.terms(1, 16);
        x.terms(2, 100);
        int key = 0;
        for (int i = 0; i < 250; i++) {
            key = (key + 101) % 256;
            if (putRough(x, key) == -5) break;
        }
        due("count(1)", x.count(1), 10);
        due("status()", x.status(), -5);
        return x;
    }

    /** Ten pages of four rough records each: page p has the keys 24p, 24p + 6, .. + 18; RESERVE 16; 21 bytes are left in each. */
    static PackedPages tenPages() {
        PackedPages x = new PackedPages();
        x.terms(0, 0);
        x.terms(2, 100);
        for (int half = 0; half < 2; half++) {
            int[] keys = new int[20];
            for (int i = 0; i < 20; i++) keys[i] = 120 * half + 6 * i;
            due("group()", group(x, roughEntries(keys)), 20);
            x.terms(0, 16 * half);
            due("compact()", x.compact(), half == 0 ? 4 : 10);
        }
        due("count(0)", x.count(0), 40);
        due("count(3)", x.count(3), 0);
        return x;
    }

    /** Ten pages, the first of which has 4 rough records packed, three more in its log (keys 1; 2: 7 bytes; 3: none), and no byte left. */
    static PackedPages tenPagesNoRoom() {
        PackedPages x = tenPages();
        x.terms(0, 0);
        due("put(1)", putRough(x, 1), 0);
        due("put(2)", put(x, 2, Arrays.copyOf(rough(2), 7)), 0);
        due("put(3)", put(x, 3), 0);
        due("page(0, 8)", x.page(0, 8), 0);
        x.terms(0, 16);
        return x;
    }

    /** RESERVE 16, four rough records and one of key 4: 17 bytes are left, so that each alter() of key 4 is one TRY that FITS. */
    static PackedPages oneTryAnAlter() {
        PackedPages x = new PackedPages();
        x.terms(0, 16);
        for (int key = 0; key < 4; key++) putRough(x, key);
        put(x, 4, 1, 2);
        due("compact()", x.compact(), 1);
        due("page(0, 8)", x.page(0, 8), 17);
        return x;
    }

    static int tryOnce(PackedPages x) { return x.alter(4, 0, x.value(4, 2) ^ 1); }

    /** RESERVE 0; a log of 31 entries, as many as there can be: keys 200 .. 230 put without bytes. */
    static PackedPages longestLog() {
        PackedPages x = new PackedPages();
        x.terms(0, 0);
        for (int key = 200; key < 231; key++) due("put", put(x, key), 0);
        due("page(0, 8)", x.page(0, 8), 0);
        return x;
    }

    /**
     * Page 0 with 12 smooth records (keys 0 .. 11: 120 plain, 12 bytes left), rough ones from 100 on in three pages;
     * two TRIES FAILED since, with a ROUND of 1 and this STRIDE; CALM is 2; ROUND is 16 then.
     */
    static PackedPages padded(int stride) {
        int[][] smooth = new int[12][];
        for (int key = 0; key < 12; key++) smooth[key] = joined(new int[] {0x18, key}, repeated(7, 8));
        PackedPages x = padded(stride, joined(smooth));
        due("page(0, 8)", x.page(0, 8), 12);
        return x;
    }

    /** The same with what these entries put, 120 plain and keys below 100, on page 0. */
    static PackedPages padded(int stride, int[] entries) {
        PackedPages x = new PackedPages();
        x.terms(1, 16);
        x.terms(2, 100);
        due("group()", group(x, entries) > 0 ? 1 : 0, 1);
        due("group()", group(x, roughEntries(100, 110, 120, 130, 140)), 5);
        due("compact()", x.compact(), 2);
        due("page(0, 3)", x.page(0, 3), 120);
        due("page(1, 2)", x.page(1, 2), 5);
        x.terms(1, 1);
        x.terms(2, 0);
        x.terms(3, stride);
        due("put(150)", putRough(x, 150), 11);
        due("count(3)", x.count(3), stride);
        due("put(160)", putRough(x, 160), 0);
        due("put(170)", putRough(x, 170), 0);
        due("put(180)", putRough(x, 180), 11);
        dueCounts(x, 3, 2 * stride, 0, 0, 2);
        x.terms(1, 16);
        return x;
    }

    // ---- all that can be read

    /** The blocks, the directory, the journal. */
    static int[] disk(PackedPages x) {
        int[] row = new int[640 + 21 + 673];
        for (int k = 0; k < 640; k++) row[k] = x.block(k / 64, k % 64);
        for (int k = 0; k < 21; k++) row[640 + k] = x.directory(k);
        for (int k = 0; k < 673; k++) row[661 + k] = x.journal(k);
        return row;
    }

    static void dueDisk(String when, PackedPages x, int[] want) {
        int[] got = disk(x);
        for (int k = 0; k < want.length; k++) due("the disk's byte " + k + " " + when, got[k], want[k]);
    }

    /** What stands beside the disk, but for what is held and what is told of refusals. */
    static int[] rest(PackedPages x) {
        int[] row = new int[20 + x.count(12)];
        int[] counts = {0, 1, 2, 3, 4, 5, 6, 9, 10, 11, 12, 20, 21, 22, 23, 24};
        for (int i = 0; i < counts.length; i++) row[i] = x.count(counts[i]);
        row[counts.length] = x.written();
        for (int i = 0; i < x.count(12); i++) row[20 + i] = x.tape(i);
        return row;
    }

    /** What is held: how many, how often a page was unpacked, which. */
    static int[] held(PackedPages x) {
        int[] row = new int[12];
        row[0] = x.count(7);
        row[1] = x.count(8);
        for (int i = 0; i < 10; i++) row[2 + i] = x.page(i, 9);
        return row;
    }

    static void dueSame(String what, int[] got, int[] want) {
        due("the length of " + what, got.length, want.length);
        for (int i = 0; i < Math.min(got.length, want.length); i++) due(what + ", " + i, got[i], want[i]);
    }

    /** Values of all keys: sizes and bytes. */
    static int[] records(PackedPages x) {
        int[] all = new int[256 * 9];
        for (int key = 0; key < 256; key++) for (int k = 0; k < 9; k++) all[key * 9 + k] = x.value(key, k == 0 ? 0 : 1 + k);
        return all;
    }

    /** All that is read of the pages: what they are, their entries, what they were behind some of these. */
    static int[] readings(PackedPages x) {
        List<Integer> row = new ArrayList<>();
        for (int i = 0; i < 10; i++) {
            for (int what = 0; what < 10; what++) row.add(x.page(i, what));
            for (int filter = 0; filter < 4; filter++) row.add(x.packing(i, filter));
            for (int j = 0; j <= 32; j++) {
                for (int what = 0; what < 12; what++) row.add(x.entry(i, j, what));
                for (int key = -1; key < 256; key += 16) row.add(x.behind(i, j, key));
            }
        }
        for (int key = 0; key < 256; key++) {
            row.add(x.value(key, 1));
            row.add(x.next(key));
        }
        return joined(row.stream().mapToInt(n -> n).toArray(), records(x));
    }
}
