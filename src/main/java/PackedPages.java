import java.util.Arrays;

/** Pages of records that lie packed on a disk, each with a log of changes behind what is packed. */
public final class PackedPages {
    public static final int NONE = -1;

    private static final int BAD_NUMBER = -1;
    private static final int NO_RECORD = -2;
    private static final int WRONG_STATE = -3;
    private static final int CANT_BE = -4;
    private static final int NO_ROOM = -5;
    private static final int UNREADABLE = -6;
    private static final int CUT_OFF = -7;

    private static final int KEYS = 256;
    private static final int VALUE_SIZE = 8;
    private static final int PAGES = 10;
    private static final int BLOCK_SIZE = 64;
    private static final int BLOCK_HEAD = 2;
    private static final int DIRECTORY_AT = PAGES * BLOCK_SIZE;
    private static final int DIRECTORY_SIZE = 1 + 2 * PAGES;
    private static final int IMAGE_SIZE = DIRECTORY_AT + DIRECTORY_SIZE;
    private static final int JOURNAL_AT = IMAGE_SIZE;
    private static final int JOURNAL_SIZE = 2 + PAGES * (1 + BLOCK_SIZE) + DIRECTORY_SIZE;
    private static final int DISK_SIZE = JOURNAL_AT + JOURNAL_SIZE;
    private static final int TAPE_SIZE = 400;
    private static final int FEED_SIZE = 20;
    private static final int FILTERS = 4;
    private static final int ACTS_KEPT = 16;

    private static final int RESERVE = 0;
    private static final int ROUND = 1;
    private static final int LIMIT = 2;
    private static final int STRIDE = 3;
    private static final int FRAMES = 4;
    private static final int[] TERM_LOWEST = {0, 1, 0, 1, 1};
    private static final int[] TERM_HIGHEST = {16, 16, 100, 32, 4};

    private static final int PADDING = 0;
    private static final int TRIES = 1;
    private static final int FAILED = 2;
    private static final int CALM = 3;
    private static final int LEARNED = 4;

    private static final int LOGGED = 0;
    private static final int SPREAD_AS_ONE = 1;
    private static final int PAGE_GOES = 2;

    private static final int ACT_PUT = 0;
    private static final int ACT_GROW = 1;
    private static final int ACT_ALTER = 2;
    private static final int ACT_ERASE = 3;
    private static final int ACT_GROUP = 4;
    private static final int ACT_COMPACT = 5;
    private static final int ACT_RECOVER = 6;

    private final int[] settings = {4, 8, 25, 8, 2};
    private final int[] learned = new int[LEARNED];
    private final int[] tapeBytes = new int[TAPE_SIZE];
    private int tapeSize = 0;
    private final int[] single = new int[Entry.LONGEST];
    private final int[] refusals = new int[-CUT_OFF];
    private int latestStatus = 0;
    private int latestFlaw = NONE;
    private int rehearsedFlaw = NONE;
    private final Disk disk = new Disk();
    private final Draft draft = new Draft();
    private final Records paper = new Records();
    private final Frames frames = new Frames();
    private final Past past = new Past();

    public PackedPages() {
    }

    public int terms(int what, int value) {
        if (what < 0 || what >= settings.length || value < TERM_LOWEST[what] || value > TERM_HIGHEST[what]) {
            return refuse(BAD_NUMBER);
        }
        int before = settings[what];
        settings[what] = value;
        frames.shrinkTo(settings[FRAMES]);
        return accept(before);
    }

    public int feed(int a, int b, int c, int d, int e) {
        if (tapeSize + FEED_SIZE > TAPE_SIZE) {
            return NONE;
        }
        addFour(a);
        addFour(b);
        addFour(c);
        addFour(d);
        addFour(e);
        return tapeSize;
    }

    public int end(int n) {
        if (n < 0 || n > tapeSize) {
            return NONE;
        }
        tapeSize = n;
        return n;
    }

    public int tape(int i) {
        return i >= 0 && i < tapeSize ? tapeBytes[i] : NONE;
    }

    public int pack(int filter) {
        if (filter < NONE || filter >= FILTERS) {
            return refuse(BAD_NUMBER);
        }
        Packer packer = paper.packer;
        int size = filter == NONE ? packer.packBest(tapeBytes, tapeSize) : packer.packRow(tapeBytes, tapeSize, filter);
        if (size > TAPE_SIZE) {
            return refuse(NO_ROOM);
        }
        takeTape(packer.packed, size);
        return accept(size);
    }

    public int unpack(int filter) {
        if (filter < 0 || filter >= FILTERS) {
            return refuse(BAD_NUMBER);
        }
        Packer packer = paper.packer;
        int size = packer.unpackRow(tapeBytes, 0, tapeSize, filter);
        latestFlaw = packer.flawPlace;
        if (size == NONE) {
            return refuse(UNREADABLE);
        }
        takeTape(packer.plain, size);
        return accept(size);
    }

    public int flaw() {
        return latestFlaw;
    }

    public int put(int key) {
        if (!isByte(key) || tapeSize > VALUE_SIZE) {
            return refuse(BAD_NUMBER);
        }
        layFromTape(Entry.PUT, key);
        return editAlone(key, ACT_PUT);
    }

    public int grow(int key) {
        if (!isByte(key) || tapeSize == 0 || tapeSize > VALUE_SIZE) {
            return refuse(BAD_NUMBER);
        }
        layFromTape(Entry.GROW, key);
        return editAlone(key, ACT_GROW);
    }

    public int alter(int key, int n, int value) {
        if (!isByte(key) || n < 0 || n >= VALUE_SIZE || !isByte(value)) {
            return refuse(BAD_NUMBER);
        }
        single[0] = 16 * Entry.ALTER + n;
        single[1] = key;
        single[2] = value;
        return editAlone(key, ACT_ALTER);
    }

    public int erase(int key) {
        if (!isByte(key)) {
            return refuse(BAD_NUMBER);
        }
        single[0] = 16 * Entry.ERASE;
        single[1] = key;
        return editAlone(key, ACT_ERASE);
    }

    public int group() {
        if (disk.down) {
            return refuse(WRONG_STATE);
        }
        int done = rehearse();
        latestFlaw = rehearsedFlaw;
        tapeSize = 0;
        return done < 0 ? refuse(done) : carryOut(ACT_GROUP, done);
    }

    public int compact() {
        if (disk.down) {
            return refuse(WRONG_STATE);
        }
        draft.begin(disk.row, learned, settings);
        int pages = draft.compactAll();
        return pages < 0 ? refuse(pages) : carryOut(ACT_COMPACT, pages);
    }

    public int fuse(int n) {
        if (n < NONE) {
            return refuse(BAD_NUMBER);
        }
        int before = disk.fuseLeft;
        disk.fuseLeft = n;
        return accept(before);
    }

    public int recover() {
        if (!disk.down) {
            return refuse(WRONG_STATE);
        }
        past.keep(ACT_RECOVER, disk, learned);
        disk.restoreOrder();
        frames.giveUpAll();
        return disk.blown ? tellCutOff() : accept(disk.wrote);
    }

    public int written() {
        return disk.wrote;
    }

    public int fetch(int key) {
        if (!isByte(key)) {
            return refuse(BAD_NUMBER);
        }
        if (disk.down) {
            return refuse(WRONG_STATE);
        }
        int page = pageFor(key);
        frames.hold(page, settings[FRAMES]);
        paper.loadOnly(disk.row, page, BLOCK_SIZE);
        int size = paper.sizeOf(key);
        if (size == NONE) {
            return refuse(NO_RECORD);
        }
        for (int k = 0; k < size; k++) {
            tapeBytes[k] = paper.byteOf(key, k);
        }
        tapeSize = size;
        return accept(size);
    }

    public int undo() {
        if (past.size == 0) {
            return refuse(CANT_BE);
        }
        int act = past.takeBack(disk, learned);
        frames.giveUpAll();
        return accept(act);
    }

    public int value(int key, int what) {
        if (disk.down || !isByte(key) || what < 0) {
            return NONE;
        }
        int page = pageFor(key);
        if (what == 1) {
            return page;
        }
        paper.loadOnly(disk.row, page, BLOCK_SIZE);
        return what == 0 ? paper.sizeOf(key) : paper.byteOf(key, what - 2);
    }

    public int next(int key) {
        if (disk.down || !isByte(key)) {
            return NONE;
        }
        paper.loadAll(disk.row);
        return paper.lowestIn(key, KEYS);
    }

    public int page(int i, int what) {
        if (!isOrder(i)) {
            return NONE;
        }
        int number = Image.pageAt(disk.row, i);
        switch (what) {
            case 0:
                return number;
            case 1:
                return Image.fenceAt(disk.row, i);
            case 2:
            case 3:
                paper.loadOnly(disk.row, number, BLOCK_SIZE);
                return what == 2 ? paper.countIn(0, KEYS) : paper.plainSize(0, KEYS);
            case 4:
            case 5:
                return disk.row[number * BLOCK_SIZE + what - 4];
            case 6:
                return Image.entryCount(disk.row, number);
            case 7:
                return Image.logEnd(disk.row, number) - Image.logStart(disk.row, number);
            case 8:
                return (number + 1) * BLOCK_SIZE - Image.logEnd(disk.row, number);
            case 9:
                return frames.holds(number) ? 1 : 0;
            default:
                return NONE;
        }
    }

    public int packing(int i, int filter) {
        if (!isOrder(i) || filter < 0 || filter >= FILTERS) {
            return NONE;
        }
        paper.loadOnly(disk.row, Image.pageAt(disk.row, i), BLOCK_SIZE);
        int size = paper.layOut(0, KEYS);
        return paper.packer.packRow(paper.laidOut, size, filter);
    }

    public int entry(int i, int j, int what) {
        if (!isOrder(i) || j < 0 || what < 0) {
            return NONE;
        }
        int number = Image.pageAt(disk.row, i);
        int at = Image.placeBehind(disk.row, number, j);
        if (j >= BLOCK_SIZE || at >= Image.logEnd(disk.row, number)) {
            return NONE;
        }
        int head = disk.row[at];
        if (what == 0) {
            return Entry.kindOf(head);
        }
        if (what == 1) {
            return Entry.numberOf(head);
        }
        // the key and the bytes lie one place ahead of where 'what' counts them
        return what - 1 < Entry.sizeBy(head) ? disk.row[at + what - 1] : NONE;
    }

    public int behind(int i, int j, int key) {
        if (!isOrder(i) || j < 0) {
            return NONE;
        }
        int number = Image.pageAt(disk.row, i);
        if (j > Image.entryCount(disk.row, number)) {
            return NONE;
        }
        paper.loadOnly(disk.row, number, j);
        return key == NONE ? paper.countIn(0, KEYS) : paper.sizeOf(key);
    }

    public int would(int what) {
        if (disk.down || what < 0 || what > 3) {
            return NONE;
        }
        int done = rehearse();
        boolean refused = done < 0;
        switch (what) {
            case 0:
                return done;
            case 1:
                return refused ? 0 : draft.bytesThroughJournal();
            case 2:
                return refused ? learned[PADDING] : draft.learned[PADDING];
            default:
                return Image.inUse(refused ? disk.row : draft.row);
        }
    }

    public int block(int page, int k) {
        if (page < 0 || page >= PAGES || k < 0 || k >= BLOCK_SIZE) {
            return NONE;
        }
        return disk.row[page * BLOCK_SIZE + k];
    }

    public int directory(int k) {
        return k >= 0 && k < DIRECTORY_SIZE ? disk.row[DIRECTORY_AT + k] : NONE;
    }

    public int journal(int k) {
        return k >= 0 && k < JOURNAL_SIZE ? disk.row[JOURNAL_AT + k] : NONE;
    }

    public int count(int what) {
        if (what >= 0 && what <= 2) {
            return countOnDisk(what);
        }
        if (what >= 3 && what <= 6) {
            return learned[what - 3];
        }
        if (what >= 13 && what <= 19) {
            return refusals[what - 13];
        }
        if (what >= 20 && what <= 24) {
            return settings[what - 20];
        }
        switch (what) {
            case 7:
                return frames.size;
            case 8:
                return frames.unpacked;
            case 9:
                return disk.fuseLeft;
            case 10:
                return disk.down ? 1 : 0;
            case 11:
                return past.size;
            case 12:
                return tapeSize;
            default:
                return NONE;
        }
    }

    public int status() {
        return latestStatus;
    }

    private static boolean isByte(int number) {
        return number >= 0 && number <= 255;
    }

    private boolean isOrder(int i) {
        return !disk.down && i >= 0 && i < Image.inUse(disk.row);
    }

    private int pageFor(int key) {
        return Image.pageAt(disk.row, Image.orderFor(disk.row, key));
    }

    private int accept(int answer) {
        latestStatus = 0;
        return answer;
    }

    private int refuse(int by) {
        latestStatus = by;
        int index = -1 - by;
        if (index >= 0 && index < refusals.length) {
            refusals[index]++;
        }
        return by;
    }

    // what was cut off is no refusal, but it is told and counted in the same way
    private int tellCutOff() {
        return refuse(CUT_OFF);
    }

    private void addFour(int number) {
        for (int shift = 24; shift >= 0 && tapeSize < TAPE_SIZE; shift -= 8) {
            tapeBytes[tapeSize] = number >>> shift & 255;
            tapeSize++;
        }
    }

    private void takeTape(int[] from, int size) {
        if (size >= 0 && size <= TAPE_SIZE && size <= from.length) {
            System.arraycopy(from, 0, tapeBytes, 0, size);
            tapeSize = size;
        }
    }

    private void layFromTape(int kind, int key) {
        int n = Math.min(tapeSize, VALUE_SIZE);
        single[0] = 16 * kind + n;
        single[1] = key;
        System.arraycopy(tapeBytes, 0, single, 2, n);
    }

    /** Does the entry laid out in 'single'. */
    private int editAlone(int key, int act) {
        if (disk.down) {
            return refuse(WRONG_STATE);
        }
        frames.hold(pageFor(key), settings[FRAMES]);
        draft.begin(disk.row, learned, settings);
        int told = draft.edit(single, 0);
        if (told < 0) {
            return refuse(told);
        }
        if (act == ACT_PUT || act == ACT_GROW) {
            tapeSize = 0;
        }
        if (told != LOGGED) {
            return carryOut(act, told);
        }
        keepAndLearn(act);
        disk.writeEntry(draft.loggedAt, single);
        return tellOutcome(act, told);
    }

    private int carryOut(int act, int answer) {
        keepAndLearn(act);
        disk.writeThroughJournal(draft.row, draft.anew);
        return tellOutcome(act, answer);
    }

    private void keepAndLearn(int act) {
        past.keep(act, disk, learned);
        System.arraycopy(draft.learned, 0, learned, 0, LEARNED);
    }

    private int tellOutcome(int act, int answer) {
        if (disk.blown) {
            frames.giveUpAll();
            return tellCutOff();
        }
        if (act == ACT_GROUP || act == ACT_COMPACT) {
            frames.giveUpAll();
        } else {
            frames.giveUpFree(disk.row);
        }
        return accept(answer);
    }

    /** Does the tape as a group in the draft: how many were done, or what refuses it. */
    private int rehearse() {
        rehearsedFlaw = firstUnreadable();
        if (rehearsedFlaw != NONE) {
            return UNREADABLE;
        }
        draft.begin(disk.row, learned, settings);
        int at = 0;
        int done = 0;
        while (done < TAPE_SIZE && at < tapeSize) {
            int told = draft.edit(tapeBytes, at);
            if (told < 0) {
                rehearsedFlaw = at;
                return told;
            }
            at += Entry.sizeBy(tapeBytes[at]);
            done++;
        }
        draft.markDifferent(disk.row);
        return done;
    }

    private int firstUnreadable() {
        if (tapeSize == 0) {
            return 0;
        }
        int at = 0;
        for (int i = 0; i < TAPE_SIZE && at < tapeSize; i++) {
            int size = Entry.sizeAt(tapeBytes, at, tapeSize);
            if (size == 0) {
                return at;
            }
            at += size;
        }
        return NONE;
    }

    private int countOnDisk(int what) {
        if (disk.down) {
            return NONE;
        }
        int used = Image.inUse(disk.row);
        if (what == 1) {
            return used;
        }
        if (what == 0) {
            paper.loadAll(disk.row);
            return paper.countIn(0, KEYS);
        }
        int entries = 0;
        for (int i = 0; i < used; i++) {
            entries += Image.entryCount(disk.row, Image.pageAt(disk.row, i));
        }
        return entries;
    }

    /** How an entry is laid out, in a log or on the tape. */
    private static final class Entry {
        static final int PUT = 1;
        static final int ERASE = 2;
        static final int ALTER = 3;
        static final int GROW = 4;
        static final int LONGEST = 2 + VALUE_SIZE;

        static int kindOf(int head) {
            return head >> 4;
        }

        static int numberOf(int head) {
            return head & 15;
        }

        /** How many bytes an entry with this first byte has; 0, if none begins so. */
        static int sizeBy(int head) {
            int n = numberOf(head);
            switch (kindOf(head)) {
                case PUT:
                    return n <= VALUE_SIZE ? 2 + n : 0;
                case ERASE:
                    return n == 0 ? 2 : 0;
                case ALTER:
                    return n < VALUE_SIZE ? 3 : 0;
                case GROW:
                    return n >= 1 && n <= VALUE_SIZE ? 2 + n : 0;
                default:
                    return 0;
            }
        }

        /** How many bytes the entry at a place has; 0, if none is there whole ahead of the limit. */
        static int sizeAt(int[] row, int at, int limit) {
            if (at < 0 || at >= limit || limit > row.length) {
                return 0;
            }
            int size = sizeBy(row[at]);
            return at + size <= limit ? size : 0;
        }
    }

    /** Reads the blocks and the directory in a row of bytes: the disk's, or a draft's. */
    private static final class Image {
        static int inUse(int[] row) {
            int used = row[DIRECTORY_AT];
            return used >= 0 && used <= PAGES ? used : 0;
        }

        static int pageAt(int[] row, int order) {
            int number = order >= 0 && order < PAGES ? row[DIRECTORY_AT + 1 + 2 * order] : 0;
            return number >= 0 && number < PAGES ? number : 0;
        }

        static int fenceAt(int[] row, int order) {
            return order >= 0 && order < PAGES ? row[DIRECTORY_AT + 2 + 2 * order] : 0;
        }

        static int orderFor(int[] row, int key) {
            int order = 0;
            int used = inUse(row);
            for (int i = 1; i < used; i++) {
                if (fenceAt(row, i) <= key) {
                    order = i;
                }
            }
            return order;
        }

        static boolean isUsed(int[] row, int page) {
            int used = inUse(row);
            for (int i = 0; i < used; i++) {
                if (pageAt(row, i) == page) {
                    return true;
                }
            }
            return false;
        }

        static int lowestFree(int[] row) {
            for (int page = 0; page < PAGES; page++) {
                if (!isUsed(row, page)) {
                    return page;
                }
            }
            return NONE;
        }

        static int packedSize(int[] row, int page) {
            return Math.max(0, Math.min(BLOCK_SIZE - BLOCK_HEAD, row[page * BLOCK_SIZE + 1]));
        }

        static int logStart(int[] row, int page) {
            return page * BLOCK_SIZE + BLOCK_HEAD + packedSize(row, page);
        }

        static int logEnd(int[] row, int page) {
            return placeBehind(row, page, BLOCK_SIZE);
        }

        /** The place behind so many entries of a page's log; its end, if there are not so many. */
        static int placeBehind(int[] row, int page, int entries) {
            int at = logStart(row, page);
            int limit = (page + 1) * BLOCK_SIZE;
            for (int i = 0; i < BLOCK_SIZE && i < entries; i++) {
                int size = Entry.sizeAt(row, at, limit);
                if (size == 0) {
                    break;
                }
                at += size;
            }
            return at;
        }

        static int entryCount(int[] row, int page) {
            int at = logStart(row, page);
            int limit = (page + 1) * BLOCK_SIZE;
            int entries = 0;
            while (entries < BLOCK_SIZE && Entry.sizeAt(row, at, limit) > 0) {
                at += Entry.sizeBy(row[at]);
                entries++;
            }
            return entries;
        }
    }

    /** Filters, packs and unpacks rows of bytes. */
    private static final class Packer {
        private static final int SHORTEST_LIKE = 3;
        private static final int LONGEST_LIKE = 130;
        private static final int FARTHEST = 127;
        private static final int MOST_SINGLE = 128;
        private static final int LIKE_BASE = 125;

        /** Longer than a tape: rows without a like gain a byte for each 128. */
        final int[] packed = new int[TAPE_SIZE + 8];
        final int[] plain = new int[TAPE_SIZE];
        int flawPlace = NONE;
        int bestFilter = 0;
        private final int[] filtered = new int[TAPE_SIZE];
        /** For each place the nearest one ahead of it with the same byte: a like can begin nowhere else. */
        private final int[] sameAhead = new int[TAPE_SIZE];
        private final int[] latestOf = new int[256];
        private int likeDistance = 0;

        /** Packs by the filter by which it has the fewest bytes, which 'bestFilter' tells then. */
        int packBest(int[] row, int length) {
            int fewest = packRow(row, length, 0);
            bestFilter = 0;
            for (int filter = 1; filter < FILTERS; filter++) {
                int size = packRow(row, length, filter);
                if (size < fewest) {
                    fewest = size;
                    bestFilter = filter;
                }
            }
            return packRow(row, length, bestFilter);
        }

        /** Packs the first bytes of a row into 'packed': how many bytes. */
        int packRow(int[] row, int length, int filter) {
            int n = Math.min(length, Math.min(row.length, TAPE_SIZE));
            filterRow(row, n, filter);
            Arrays.fill(latestOf, NONE);
            linkSame(n);
            int size = 0;
            int at = 0;
            int firstSingle = 0;
            for (int i = 0; i < TAPE_SIZE && at < n; i++) {
                int like = longestLike(at, n);
                if (like == 0) {
                    at++;
                    continue;
                }
                size = tellSingles(firstSingle, at, size);
                if (size + 2 <= packed.length) {
                    packed[size] = LIKE_BASE + like;
                    packed[size + 1] = likeDistance;
                    size += 2;
                }
                at += like;
                firstSingle = at;
            }
            return tellSingles(firstSingle, n, size);
        }

        private void filterRow(int[] row, int n, int filter) {
            for (int i = 0; i < n; i++) {
                int ahead = i >= 1 ? row[i - 1] : 0;
                int twoAhead = i >= 2 ? row[i - 2] : 0;
                int result = row[i];
                if (filter == 1) {
                    result -= ahead;
                } else if (filter == 2) {
                    result ^= ahead;
                } else if (filter == 3) {
                    result -= twoAhead;
                }
                filtered[i] = result & 255;
            }
        }

        private void linkSame(int n) {
            for (int i = 0; i < n; i++) {
                sameAhead[i] = latestOf[filtered[i]];
                latestOf[filtered[i]] = i;
            }
        }

        private int longestLike(int at, int n) {
            int most = n - at < LONGEST_LIKE ? n - at : LONGEST_LIKE;
            int longest = SHORTEST_LIKE - 1;
            int from = sameAhead[at];
            for (int i = 0; i < FARTHEST && from >= 0 && at - from <= FARTHEST && longest < most; i++) {
                int like = 1;
                while (like < most && filtered[at + like] == filtered[from + like]) {
                    like++;
                }
                if (like > longest) {
                    longest = like;
                    likeDistance = at - from;
                }
                from = sameAhead[from];
            }
            return longest < SHORTEST_LIKE ? 0 : longest;
        }

        private int tellSingles(int from, int to, int size) {
            int told = size;
            for (int i = from; i < to && told + 2 <= packed.length; i++) {
                if ((i - from) % MOST_SINGLE == 0) {
                    packed[told] = (to - i < MOST_SINGLE ? to - i : MOST_SINGLE) - 1;
                    told++;
                }
                packed[told] = filtered[i];
                told++;
            }
            return told;
        }

        /** Unpacks a part of a row into 'plain': how many bytes; NONE with a flaw. */
        int unpackRow(int[] row, int from, int length, int filter) {
            flawPlace = NONE;
            int limit = Math.min(row.length, from + length);
            int at = from;
            int size = 0;
            for (int i = 0; i < TAPE_SIZE && at >= 0 && at < limit && flawPlace == NONE; i++) {
                int head = row[at];
                if (head < MOST_SINGLE) {
                    size = unpackSingles(row, at, limit, size);
                    at += 2 + head;
                } else {
                    size = unpackLike(row, at, limit, size);
                    at += 2;
                }
            }
            if (flawPlace != NONE) {
                flawPlace -= from;
                return NONE;
            }
            turnBack(size, filter);
            return size;
        }

        private int unpackSingles(int[] row, int at, int limit, int size) {
            int many = row[at] + 1;
            if (many < 1 || size + many > TAPE_SIZE) {
                flawPlace = at;
                return size;
            }
            if (at + 1 + many > limit) {
                flawPlace = limit;
                return size;
            }
            System.arraycopy(row, at + 1, plain, size, many);
            return size + many;
        }

        private int unpackLike(int[] row, int at, int limit, int size) {
            int n = row[at] - LIKE_BASE;
            if (size + n > TAPE_SIZE) {
                flawPlace = at;
                return size;
            }
            int distance = at + 1 < limit ? row[at + 1] : 0;
            if (distance < 1 || distance > FARTHEST || distance > size) {
                flawPlace = at + 1;
                return size;
            }
            for (int i = size; i < size + n; i++) {
                plain[i] = plain[i - distance];
            }
            return size + n;
        }

        private void turnBack(int size, int filter) {
            for (int i = 0; i < size; i++) {
                int ahead = i >= 1 ? plain[i - 1] : 0;
                int twoAhead = i >= 2 ? plain[i - 2] : 0;
                int result = plain[i];
                if (filter == 1) {
                    result += ahead;
                } else if (filter == 2) {
                    result ^= ahead;
                } else if (filter == 3) {
                    result += twoAhead;
                }
                plain[i] = result & 255;
            }
        }
    }

    /** Records by their keys, as they are read from pages. */
    private static final class Records {
        final Packer packer = new Packer();
        final int[] laidOut = new int[TAPE_SIZE];
        /** NONE where there is no record of the key. */
        private final int[] sizes = new int[KEYS];
        private final int[] bytes = new int[KEYS * VALUE_SIZE];

        void loadOnly(int[] row, int page, int entries) {
            Arrays.fill(sizes, NONE);
            addPage(row, page, entries);
        }

        void loadAll(int[] row) {
            Arrays.fill(sizes, NONE);
            int used = Image.inUse(row);
            for (int i = 0; i < used; i++) {
                addPage(row, Image.pageAt(row, i), BLOCK_SIZE);
            }
        }

        private void addPage(int[] row, int page, int entries) {
            int size = packer.unpackRow(row, page * BLOCK_SIZE + BLOCK_HEAD, Image.packedSize(row, page),
                    row[page * BLOCK_SIZE]);
            takePlain(size);
            int at = Image.logStart(row, page);
            int limit = (page + 1) * BLOCK_SIZE;
            for (int i = 0; i < BLOCK_SIZE && i < entries; i++) {
                int entrySize = Entry.sizeAt(row, at, limit);
                if (entrySize == 0) {
                    break;
                }
                apply(row, at);
                at += entrySize;
            }
        }

        private void takePlain(int size) {
            int[] plain = packer.plain;
            int at = 0;
            for (int i = 0; i < KEYS && at + 1 < size; i++) {
                int key = plain[at];
                int n = plain[at + 1];
                if (!isByte(key) || n < 0 || n > VALUE_SIZE || at + 2 + n > size) {
                    break;
                }
                sizes[key] = n;
                System.arraycopy(plain, at + 2, bytes, key * VALUE_SIZE, n);
                at += 2 + n;
            }
        }

        /** What refuses the entry that lies whole at a place; 0, if nothing does. */
        int refusalOf(int[] source, int at) {
            int kind = Entry.kindOf(source[at]);
            int n = Entry.numberOf(source[at]);
            int key = source[at + 1] & 255;
            int size = sizes[key];
            if (kind == Entry.PUT) {
                return size == n && holdsBytes(key, source, at + 2) ? CANT_BE : 0;
            }
            if (size == NONE) {
                return NO_RECORD;
            }
            if (kind == Entry.ALTER) {
                return n >= size || bytes[key * VALUE_SIZE + n] == source[at + 2] ? CANT_BE : 0;
            }
            return kind == Entry.GROW && size + n > VALUE_SIZE ? CANT_BE : 0;
        }

        private boolean holdsBytes(int key, int[] source, int from) {
            for (int k = 0; k < sizes[key]; k++) {
                if (bytes[key * VALUE_SIZE + k] != source[from + k]) {
                    return false;
                }
            }
            return true;
        }

        /** Does the entry that lies whole at a place. */
        void apply(int[] source, int at) {
            int kind = Entry.kindOf(source[at]);
            int n = Entry.numberOf(source[at]);
            int key = source[at + 1] & 255;
            int base = key * VALUE_SIZE;
            if (kind == Entry.PUT) {
                System.arraycopy(source, at + 2, bytes, base, n);
                sizes[key] = n;
            } else if (kind == Entry.ERASE) {
                sizes[key] = NONE;
            } else if (kind == Entry.ALTER && n < sizes[key]) {
                bytes[base + n] = source[at + 2];
            } else if (kind == Entry.GROW && sizes[key] != NONE && sizes[key] + n <= VALUE_SIZE) {
                System.arraycopy(source, at + 2, bytes, base + sizes[key], n);
                sizes[key] += n;
            }
        }

        int sizeOf(int key) {
            return isByte(key) ? sizes[key] : NONE;
        }

        int byteOf(int key, int k) {
            return k >= 0 && k < sizeOf(key) ? bytes[key * VALUE_SIZE + k] : NONE;
        }

        int countIn(int low, int high) {
            int records = 0;
            for (int key = low; key < high; key++) {
                if (sizes[key] != NONE) {
                    records++;
                }
            }
            return records;
        }

        int plainSize(int low, int high) {
            int size = 0;
            for (int key = low; key < high; key++) {
                if (sizes[key] != NONE) {
                    size += 2 + sizes[key];
                }
            }
            return size;
        }

        int lowestIn(int low, int high) {
            for (int key = low; key < high; key++) {
                if (sizes[key] != NONE) {
                    return key;
                }
            }
            return NONE;
        }

        /** The key at which the second half of the records begins. */
        int cutOf(int low, int high) {
            int half = countIn(low, high) / 2;
            int passed = 0;
            for (int key = low; key < high; key++) {
                if (sizes[key] != NONE) {
                    if (passed == half) {
                        return key;
                    }
                    passed++;
                }
            }
            return high;
        }

        /** Lays the records of some keys out plain: how many bytes. */
        int layOut(int low, int high) {
            int at = 0;
            for (int key = low; key < high; key++) {
                int n = sizes[key];
                if (n != NONE && at + 2 + n <= laidOut.length) {
                    laidOut[at] = key;
                    laidOut[at + 1] = n;
                    System.arraycopy(bytes, key * VALUE_SIZE, laidOut, at + 2, n);
                    at += 2 + n;
                }
            }
            return at;
        }
    }

    /** Blocks, directory and what is learned as they would be: nothing of it is on the disk yet. */
    private static final class Draft {
        private static final int FULL = 120;
        private static final int MOST_PADDING = 64;
        private static final int CALM_ENOUGH = 3;

        final int[] row = new int[IMAGE_SIZE];
        final int[] learned = new int[LEARNED];
        /** 1 for each page the block of which is to be written. */
        final int[] anew = new int[PAGES];
        int loggedAt = 0;
        private final Records records = new Records();
        private final int[] settings = new int[FRAMES + 1];
        /** The ends, as keys, of the rows that are still to be spread: halves of halves. */
        private final int[] ends = new int[16];
        private int shapeSize = 0;

        void begin(int[] diskRow, int[] learnedByNow, int[] settingsByNow) {
            System.arraycopy(diskRow, 0, row, 0, IMAGE_SIZE);
            System.arraycopy(learnedByNow, 0, learned, 0, LEARNED);
            System.arraycopy(settingsByNow, 0, settings, 0, settings.length);
            Arrays.fill(anew, 0);
        }

        /** Does the entry at a place of a row: what is told, or what refuses it. */
        int edit(int[] source, int at) {
            int size = Entry.sizeAt(source, at, source.length);
            if (size == 0) {
                return UNREADABLE;
            }
            int order = Image.orderFor(row, source[at + 1]);
            int page = Image.pageAt(row, order);
            records.loadOnly(row, page, BLOCK_SIZE);
            int refusal = records.refusalOf(source, at);
            if (refusal != 0) {
                return refusal;
            }
            int plainBefore = records.plainSize(0, KEYS);
            records.apply(source, at);
            int plainThen = records.plainSize(0, KEYS);
            boolean erases = Entry.kindOf(source[at]) == Entry.ERASE;
            if (erases && plainThen == 0 && Image.fenceAt(row, order) != 0) {
                removeFromDirectory(order);
                return PAGE_GOES;
            }
            int end = Image.logEnd(row, page);
            int left = (page + 1) * BLOCK_SIZE - end - size;
            boolean hasRoom = left >= (erases ? 0 : settings[RESERVE]);
            if (hasRoom && (plainThen <= full() || plainThen <= plainBefore)) {
                System.arraycopy(source, at, row, end, size);
                loggedAt = end;
                return LOGGED;
            }
            return spread(order);
        }

        private int full() {
            return FULL - learned[PADDING];
        }

        /** Spreads the records at hand, in place of a page: what is told, or no room. */
        private int spread(int order) {
            int pages = 0;
            int low = 0;
            int open = 1;
            ends[0] = KEYS;
            for (int i = 0; i < 2 * KEYS && open > 0; i++) {
                int high = ends[open - 1];
                if (tryShape(low, high)) {
                    if (pages > 0 && !insertIntoDirectory(order + pages, records.lowestIn(low, high))) {
                        return NO_ROOM;
                    }
                    writeBlock(Image.pageAt(row, order + pages));
                    pages++;
                    low = high;
                    open--;
                } else if (open < ends.length) {
                    ends[open] = records.cutOf(low, high);
                    open++;
                }
            }
            return pages == 1 ? SPREAD_AS_ONE : 9 + pages;
        }

        private boolean tryShape(int low, int high) {
            boolean cantBeCut = records.countIn(low, high) <= 1;
            if (!cantBeCut && records.plainSize(low, high) > full()) {
                return false;
            }
            int plain = records.layOut(low, high);
            shapeSize = records.packer.packBest(records.laidOut, plain);
            boolean fits = cantBeCut || fitsWith(shapeSize);
            learnFromTry(fits);
            return fits;
        }

        private boolean fitsWith(int packedSize) {
            return BLOCK_HEAD + packedSize + settings[RESERVE] <= BLOCK_SIZE;
        }

        private void learnFromTry(boolean fits) {
            learned[TRIES]++;
            if (!fits) {
                learned[FAILED]++;
            }
            if (learned[TRIES] < settings[ROUND]) {
                return;
            }
            if (learned[FAILED] * 100 > settings[LIMIT] * learned[TRIES]) {
                learned[PADDING] = Math.min(MOST_PADDING, learned[PADDING] + settings[STRIDE]);
                learned[CALM] = 0;
            } else {
                learned[CALM]++;
            }
            if (learned[CALM] >= CALM_ENOUGH) {
                learned[PADDING] = Math.max(0, learned[PADDING] - settings[STRIDE]);
                learned[CALM] = 0;
            }
            learned[TRIES] = 0;
            learned[FAILED] = 0;
        }

        /** Writes the shape found last into a page's block, with an empty log. */
        private void writeBlock(int page) {
            int base = page * BLOCK_SIZE;
            int size = Math.min(shapeSize, BLOCK_SIZE - BLOCK_HEAD);
            Arrays.fill(row, base, base + BLOCK_SIZE, 0);
            row[base] = records.packer.bestFilter;
            row[base + 1] = size;
            System.arraycopy(records.packer.packed, 0, row, base + BLOCK_HEAD, size);
            anew[page] = 1;
        }

        private boolean insertIntoDirectory(int order, int fence) {
            int used = Image.inUse(row);
            int number = Image.lowestFree(row);
            if (number == NONE || used >= PAGES || order < 0 || order > used) {
                return false;
            }
            int place = DIRECTORY_AT + 1 + 2 * order;
            System.arraycopy(row, place, row, place + 2, 2 * (used - order));
            row[place] = number;
            row[place + 1] = fence;
            row[DIRECTORY_AT] = used + 1;
            return true;
        }

        private void removeFromDirectory(int order) {
            int used = Image.inUse(row);
            if (order < 0 || order >= used) {
                return;
            }
            int place = DIRECTORY_AT + 1 + 2 * order;
            System.arraycopy(row, place + 2, row, place, 2 * (used - 1 - order));
            row[DIRECTORY_AT] = used - 1;
        }

        /** Packs all records anew into the first pages: how many, or no room. */
        int compactAll() {
            records.loadAll(row);
            int low = 0;
            for (int page = 0; page < PAGES; page++) {
                int high = farthestEnd(low);
                int plain = records.layOut(low, high);
                shapeSize = records.packer.packBest(records.laidOut, plain);
                writeBlock(page);
                row[DIRECTORY_AT] = page + 1;
                row[DIRECTORY_AT + 1 + 2 * page] = page;
                row[DIRECTORY_AT + 2 + 2 * page] = page == 0 ? 0 : records.lowestIn(low, high);
                if (records.lowestIn(high, KEYS) == NONE) {
                    return page + 1;
                }
                low = high;
            }
            return NO_ROOM;
        }

        /** The end of the keys of as many records as one page can have from a key on. */
        private int farthestEnd(int low) {
            int first = records.lowestIn(low, KEYS);
            if (first == NONE) {
                return KEYS;
            }
            int high = first + 1;
            for (int key = high; key < KEYS; key++) {
                if (records.sizeOf(key) == NONE) {
                    continue;
                }
                if (records.plainSize(low, key + 1) > full() || !fitsByAny(low, key + 1)) {
                    break;
                }
                high = key + 1;
            }
            return high;
        }

        // the shape has the fewest bytes: it fits if and only if those by any filter do
        private boolean fitsByAny(int low, int high) {
            int plain = records.layOut(low, high);
            for (int filter = 0; filter < FILTERS; filter++) {
                if (fitsWith(records.packer.packRow(records.laidOut, plain, filter))) {
                    return true;
                }
            }
            return false;
        }

        /** Marks the blocks that are not as on the disk; those of free pages, too. */
        void markDifferent(int[] diskRow) {
            for (int page = 0; page < PAGES; page++) {
                anew[page] = 0;
                for (int k = page * BLOCK_SIZE; k < (page + 1) * BLOCK_SIZE; k++) {
                    if (row[k] != diskRow[k]) {
                        anew[page] = 1;
                    }
                }
            }
        }

        /** How many bytes are written when this draft goes through the journal. */
        int bytesThroughJournal() {
            int blocks = 0;
            for (int page = 0; page < PAGES; page++) {
                blocks += anew[page];
            }
            int directorySize = 1 + 2 * Image.inUse(row);
            int inJournal = 1 + blocks * (1 + BLOCK_SIZE) + directorySize;
            int inPlace = blocks * BLOCK_SIZE + directorySize;
            return inJournal + 1 + inPlace + 1;
        }
    }

    /** The bytes that last, the fuse, and the ways in which they are written. */
    private static final class Disk {
        final int[] row = new int[DISK_SIZE];
        int fuseLeft = NONE;
        boolean down = false;
        /** Whether the fuse ended the latest act. */
        boolean blown = false;
        int wrote = 0;

        Disk() {
            row[DIRECTORY_AT] = 1;
        }

        private void startAct() {
            blown = false;
            wrote = 0;
        }

        private void write(int place, int value) {
            if (blown || place < 0 || place >= DISK_SIZE) {
                return;
            }
            if (fuseLeft == 0) {
                blown = true;
                down = true;
                fuseLeft = NONE;
                return;
            }
            if (fuseLeft > 0) {
                fuseLeft--;
            }
            row[place] = value;
            wrote++;
        }

        /** Writes an entry so that it counts only with its last byte written: the first. */
        void writeEntry(int place, int[] source) {
            startAct();
            int size = Entry.sizeAt(source, 0, source.length);
            for (int k = 1; k < size; k++) {
                write(place + k, source[k]);
            }
            write(place, source[0]);
        }

        void writeThroughJournal(int[] image, int[] anew) {
            startAct();
            int directorySize = 1 + 2 * Image.inUse(image);
            int blocks = 0;
            for (int page = 0; page < PAGES; page++) {
                blocks += anew[page];
            }
            int place = JOURNAL_AT + 1;
            write(place, blocks);
            place++;
            for (int page = 0; page < PAGES; page++) {
                if (anew[page] == 1) {
                    write(place, page);
                    copyIn(image, page * BLOCK_SIZE, place + 1, BLOCK_SIZE);
                    place += 1 + BLOCK_SIZE;
                }
            }
            copyIn(image, DIRECTORY_AT, place, directorySize);
            write(JOURNAL_AT, 1);
            for (int page = 0; page < PAGES; page++) {
                if (anew[page] == 1) {
                    copyIn(image, page * BLOCK_SIZE, page * BLOCK_SIZE, BLOCK_SIZE);
                }
            }
            copyIn(image, DIRECTORY_AT, DIRECTORY_AT, directorySize);
            write(JOURNAL_AT, 0);
        }

        private void copyIn(int[] source, int from, int place, int size) {
            for (int k = 0; k < size && from + k < source.length; k++) {
                write(place + k, source[from + k]);
            }
        }

        void restoreOrder() {
            startAct();
            if (row[JOURNAL_AT] == 1) {
                doJournalAgain();
            }
            // cut off within that, the directory may be half written: it is not to be read
            if (!blown) {
                clearBehindLogs();
            }
            if (!blown) {
                down = false;
            }
        }

        private void doJournalAgain() {
            int blocks = Math.max(0, Math.min(PAGES, row[JOURNAL_AT + 1]));
            int place = JOURNAL_AT + 2;
            for (int i = 0; i < blocks; i++) {
                copyIn(row, place + 1, row[place] * BLOCK_SIZE, BLOCK_SIZE);
                place += 1 + BLOCK_SIZE;
            }
            copyIn(row, place, DIRECTORY_AT, 1 + 2 * Math.max(0, Math.min(PAGES, row[place])));
            write(JOURNAL_AT, 0);
        }

        private void clearBehindLogs() {
            int used = Image.inUse(row);
            for (int i = 0; i < used; i++) {
                int page = Image.pageAt(row, i);
                for (int k = Image.logEnd(row, page); k < (page + 1) * BLOCK_SIZE; k++) {
                    if (row[k] != 0) {
                        write(k, 0);
                    }
                }
            }
        }
    }

    /** Which pages are held plain, the one used the longest ago first. */
    private static final class Frames {
        int size = 0;
        int unpacked = 0;
        private final int[] pages = new int[4];

        boolean holds(int page) {
            return placeOf(page) != NONE;
        }

        private int placeOf(int page) {
            for (int i = 0; i < size; i++) {
                if (pages[i] == page) {
                    return i;
                }
            }
            return NONE;
        }

        void hold(int page, int limit) {
            int place = placeOf(page);
            if (place == NONE) {
                unpacked++;
                shrinkTo(limit - 1);
            } else {
                giveUp(place);
            }
            if (size < pages.length) {
                pages[size] = page;
                size++;
            }
        }

        private void giveUp(int place) {
            if (place >= 0 && place < size) {
                System.arraycopy(pages, place + 1, pages, place, size - 1 - place);
                size--;
            }
        }

        void shrinkTo(int limit) {
            for (int i = 0; i < pages.length && size > limit; i++) {
                giveUp(0);
            }
        }

        void giveUpFree(int[] row) {
            for (int i = size - 1; i >= 0; i--) {
                if (!Image.isUsed(row, pages[i])) {
                    giveUp(i);
                }
            }
        }

        void giveUpAll() {
            size = 0;
        }
    }

    /** All that an act can change and undo() brings back. */
    private static final class Moment {
        int act = 0;
        boolean down = false;
        final int[] row = new int[DISK_SIZE];
        final int[] learned = new int[LEARNED];
    }

    /** The moments ahead of the latest acts, in a ring. */
    private static final class Past {
        int size = 0;
        /** Made when they are first needed: most objects never keep all. */
        private final Moment[] moments = new Moment[ACTS_KEPT];
        private int nextSlot = 0;

        void keep(int act, Disk disk, int[] learned) {
            Moment moment = moments[nextSlot];
            if (moment == null) {
                moment = new Moment();
                moments[nextSlot] = moment;
            }
            moment.act = act;
            moment.down = disk.down;
            System.arraycopy(disk.row, 0, moment.row, 0, DISK_SIZE);
            System.arraycopy(learned, 0, moment.learned, 0, LEARNED);
            nextSlot = (nextSlot + 1) % ACTS_KEPT;
            size = Math.min(ACTS_KEPT, size + 1);
        }

        /** Brings the latest moment back: the act that followed it. */
        int takeBack(Disk disk, int[] learned) {
            int slot = (nextSlot + ACTS_KEPT - 1) % ACTS_KEPT;
            Moment moment = moments[slot];
            if (size == 0 || moment == null) {
                return NONE;
            }
            nextSlot = slot;
            size--;
            disk.down = moment.down;
            System.arraycopy(moment.row, 0, disk.row, 0, DISK_SIZE);
            System.arraycopy(moment.learned, 0, learned, 0, LEARNED);
            return moment.act;
        }
    }
}
