import java.util.NoSuchElementException;

/**
 * Quotas of projects in a tree of folders: limits for blocks and files, grace clocks, gifts of
 * blocks between projects, moves, accounts that can be wrong, and their repair.
 */
public final class QuotaTree {

    public static final int NONE = -1;
    public static final int SYNTAX_ERROR = -2;
    public static final int VALUE_ERROR = -3;
    public static final int TOO_MANY = -4;

    private static final int MOST_FOLDERS = 40;
    private static final int MOST_FILES = 60;
    private static final int MOST_GIFTS = 12;
    private static final int MOST_CHANGES = 8;
    private static final int MOST_TEXT = 900;
    private static final int MOST_LETTERS = 8;
    private static final int MOST_BLOCKS = 9999;
    private static final int MOST_LIMIT = 99999;
    private static final int MOST_USED = 999999;
    private static final int MOST_ADJUSTED = 9999;
    private static final int MOST_GRACE = 99;
    private static final int MOST_TICKS = 999;
    private static final int MOST_TIME = 9999;

    private static final int PROJECTS = 8;
    private static final int BLOCKS = 0;
    private static final int FILES = 1;
    private static final int KINDS = 2;
    private static final int ACCOUNTS = PROJECTS * KINDS;

    private static final int ROOT = 0;
    private static final int FIRST_GRACE = 10;
    private static final int APPENDED = 20;
    private static final int CANNOT_STAND_THERE = 5;

    /** The words root, grace, limit, folder, tag and file, each as find takes a name. */
    private static final long ROOT_WORD = 18L << 15 | 15L << 10 | 15L << 5 | 20L;
    private static final long GRACE_WORD = 7L << 20 | 18L << 15 | 1L << 10 | 3L << 5 | 5L;
    private static final long LIMIT_WORD = 12L << 20 | 9L << 15 | 13L << 10 | 9L << 5 | 20L;
    private static final long FOLDER_WORD =
            6L << 25 | 15L << 20 | 12L << 15 | 4L << 10 | 5L << 5 | 18L;
    private static final long TAG_WORD = 20L << 10 | 1L << 5 | 7L;
    private static final long FILE_WORD = 6L << 15 | 9L << 10 | 12L << 5 | 5L;

    private final State now = new State();
    private final State[] past = new State[MOST_CHANGES];
    private int changes;
    private int undoable;
    private final Bytes text = new Bytes();
    private final Bytes written = new Bytes();
    private final Reader reader = new Reader(text);

    public QuotaTree() {
        for (int i = 0; i < MOST_CHANGES; i++) {
            past[i] = new State();
        }
    }

    // ---- setup

    public int append(int a, int b, int c, int d, int e) throws IllegalStateException {
        if (text.length > MOST_TEXT - APPENDED) {
            throw new IllegalStateException("the text buffer is full");
        }
        text.putFour(a);
        text.putFour(b);
        text.putFour(c);
        text.putFour(d);
        text.putFour(e);
        return text.length;
    }

    public int load(int length) throws IllegalArgumentException {
        needRange(length, 0, text.length);
        reader.readTree(length);
        text.length = 0;
        if (reader.error != 0) {
            return reader.error;
        }
        remember();
        now.copyFrom(reader.draft);
        now.correctAccounts();
        now.setClocks();
        return now.files.total;
    }

    public int errorPosition() {
        return reader.errorAt;
    }

    public int count(int what) throws IllegalArgumentException {
        switch (what) {
            case 0: return now.folders.total;
            case 1: return now.files.total;
            case 2: return now.subtreeSum(ROOT, BLOCKS);
            case 3: return now.time;
            case 4: return now.grace;
            case 5: return now.gifts.total;
            case 6: return now.folders.taggedTotal();
            case 7: return now.countAnew(NONE, FILES);
            default: throw new IllegalArgumentException("no such number of the tree");
        }
    }

    // ---- folders

    public int find(long name) {
        return now.folders.numberOf(name);
    }

    public int folder(int folder, int what)
            throws IndexOutOfBoundsException, IllegalArgumentException {
        needFolder(folder);
        switch (what) {
            case 0: return now.folders.parentOf(folder);
            case 1: return now.folders.tagOf(folder);
            case 2: return now.folders.projectOf(folder);
            case 3: return now.folders.childrenOf(folder);
            case 4: return now.files.totalIn(folder);
            case 5: return now.folders.depthOf(folder);
            case 6: return now.folders.subtreeTotal(folder);
            case 7: return now.subtreeSum(folder, FILES);
            case 8: return now.subtreeSum(folder, BLOCKS);
            case 9: return now.openSum(folder, FILES);
            default: throw new IllegalArgumentException("no such number of a folder");
        }
    }

    public int walked(int index) throws IndexOutOfBoundsException {
        needFolder(index);
        int folder = ROOT;
        for (int i = 0; i < index; i++) {
            folder = now.folders.nextInWalk(folder);
        }
        return folder;
    }

    public int heaviest(int folder) throws IndexOutOfBoundsException, NoSuchElementException {
        needFolder(folder);
        int best = now.heaviestChild(folder);
        if (best == NONE) {
            throw new NoSuchElementException("the folder has no children");
        }
        return best;
    }

    public int addFolder(int parent, long name)
            throws IndexOutOfBoundsException, IllegalArgumentException, IllegalStateException {
        needFolder(parent);
        if (!isName(name) || now.folders.numberOf(name) != NONE) {
            throw new IllegalArgumentException("not the name of a new folder");
        }
        if (now.folders.isFull()) {
            throw new IllegalStateException("there are 40 folders");
        }
        remember();
        now.folders.add(parent, name);
        now.setClocks();
        return now.folders.total - 1;
    }

    public int removeFolder(int folder) throws IndexOutOfBoundsException, IllegalStateException {
        needFolder(folder);
        if (folder == ROOT || now.folders.childrenOf(folder) > 0 || now.files.totalIn(folder) > 0) {
            throw new IllegalStateException("the folder is the root or not empty");
        }
        remember();
        now.folders.removeAt(folder);
        now.files.closeGap(folder);
        now.setClocks();
        return now.folders.total;
    }

    public int tagReason(int folder, int project)
            throws IndexOutOfBoundsException, IllegalArgumentException {
        needFolder(folder);
        needRange(project, NONE, PROJECTS - 1);
        return now.openReason(folder, now.folders.projectIfTagged(folder, project));
    }

    public int tag(int folder, int project)
            throws IndexOutOfBoundsException, IllegalArgumentException, IllegalStateException {
        needNoReason(tagReason(folder, project));
        remember();
        int changed = now.transferOpenPart(folder, now.folders.projectIfTagged(folder, project));
        now.folders.setTag(folder, project);
        now.setClocks();
        return changed;
    }

    public int moveReason(int folder, int parent) throws IndexOutOfBoundsException {
        needFolder(folder);
        needFolder(parent);
        if (folder == ROOT || now.folders.isInSubtree(parent, folder)) {
            return CANNOT_STAND_THERE;
        }
        return now.openReason(folder, now.folders.projectIfMoved(folder, parent));
    }

    public int moveFolder(int folder, int parent)
            throws IndexOutOfBoundsException, IllegalStateException {
        needNoReason(moveReason(folder, parent));
        remember();
        int changed = now.transferOpenPart(folder, now.folders.projectIfMoved(folder, parent));
        now.folders.setParent(folder, parent);
        now.setClocks();
        return changed;
    }

    // ---- files

    public int file(int file, int what)
            throws IndexOutOfBoundsException, IllegalArgumentException {
        needFile(file);
        switch (what) {
            case 0: return now.files.placeOf(file);
            case 1: return now.files.sizeOf(file);
            case 2: return now.projectOfFile(file);
            default: throw new IllegalArgumentException("no such number of a file");
        }
    }

    public int writeReason(int folder, int blocks)
            throws IndexOutOfBoundsException, IllegalArgumentException {
        needFolder(folder);
        needRange(blocks, 0, MOST_BLOCKS);
        return now.growthReason(now.folders.projectOf(folder), blocks, 1);
    }

    public int write(int folder, int blocks)
            throws IndexOutOfBoundsException, IllegalArgumentException, IllegalStateException {
        needNoReason(writeReason(folder, blocks));
        if (now.files.isFull()) {
            throw new IllegalStateException("there are 60 files");
        }
        remember();
        now.files.add(folder, blocks);
        now.accounts.change(now.folders.projectOf(folder), blocks, 1);
        now.setClocks();
        return now.files.total - 1;
    }

    public int room(int folder) throws IndexOutOfBoundsException {
        needFolder(folder);
        int project = now.folders.projectOf(folder);
        if (now.growthReason(project, 0, 1) != 0) {
            return NONE;
        }
        return now.roomOf(project);
    }

    public int resize(int file, int blocks)
            throws IndexOutOfBoundsException, IllegalArgumentException, IllegalStateException {
        needFile(file);
        needRange(blocks, 0, MOST_BLOCKS);
        int project = now.projectOfFile(file);
        int before = now.files.sizeOf(file);
        needNoReason(now.growthReason(project, blocks - before, 0));
        remember();
        now.files.setSize(file, blocks);
        now.accounts.change(project, blocks - before, 0);
        now.setClocks();
        return before;
    }

    public int delete(int file) throws IndexOutOfBoundsException {
        needFile(file);
        remember();
        now.accounts.change(now.projectOfFile(file), -now.files.sizeOf(file), -1);
        now.files.removeAt(file);
        now.setClocks();
        return now.files.total;
    }

    public int moveFile(int file, int folder)
            throws IndexOutOfBoundsException, IllegalStateException {
        needFile(file);
        needFolder(folder);
        int from = now.projectOfFile(file);
        int to = now.folders.projectOf(folder);
        int blocks = now.files.sizeOf(file);
        if (from != to) {
            needNoReason(now.growthReason(to, blocks, 1));
        }
        remember();
        now.files.setPlace(file, folder);
        now.accounts.transfer(from, to, blocks, 1);
        now.setClocks();
        return from == to ? 0 : 1;
    }

    public int greatest(int project) throws IllegalArgumentException, NoSuchElementException {
        needProject(project);
        int best = now.greatestFile(project);
        if (best == NONE) {
            throw new NoSuchElementException("the project has no files");
        }
        return best;
    }

    // ---- accounts, limits and clocks

    public int used(int project, int kind) throws IllegalArgumentException {
        needAccount(project, kind);
        return now.accounts.amountOf(accountOf(project, kind));
    }

    public int counted(int project, int kind) throws IllegalArgumentException {
        needAccount(project, kind);
        return now.countAnew(project, kind);
    }

    public int limit(int project, int kind, boolean hard) throws IllegalArgumentException {
        needAccount(project, kind);
        return now.effectiveLimit(project, kind, hard);
    }

    public int setLimit(int project, int kind, int soft, int hard)
            throws IllegalArgumentException, IllegalStateException {
        needAccount(project, kind);
        needRange(soft, 0, MOST_LIMIT);
        needRange(hard, 0, MOST_LIMIT);
        if (hard > 0 && hard < soft) {
            throw new IllegalArgumentException("the hard limit is below the soft one");
        }
        if (hard == 0 && kind == BLOCKS && now.gifts.concern(project)) {
            throw new IllegalStateException("a gift needs the hard limit");
        }
        remember();
        now.accounts.setLimits(accountOf(project, kind), soft, hard);
        now.setClocks();
        return now.stateOf(project, kind);
    }

    public int state(int project, int kind) throws IllegalArgumentException {
        needAccount(project, kind);
        return now.stateOf(project, kind);
    }

    public int graceLeft(int project, int kind) throws IllegalArgumentException {
        needAccount(project, kind);
        int end = now.graceEnd(project, kind);
        return end == NONE ? NONE : Math.max(end - now.time, 0);
    }

    public int setGrace(int grace) throws IllegalArgumentException {
        needRange(grace, 1, MOST_GRACE);
        int before = now.grace;
        remember();
        now.grace = grace;
        now.setClocks();
        return before;
    }

    public int tick(int ticks) throws IllegalArgumentException, IllegalStateException {
        needRange(ticks, 1, MOST_TICKS);
        if (now.time + ticks > MOST_TIME) {
            throw new IllegalStateException("the time would exceed 9999");
        }
        remember();
        now.time += ticks;
        int ended = now.gifts.removeEnded(now.time);
        now.setClocks();
        return ended;
    }

    public int nextEvent() {
        return now.earlierEvent(now.gifts.firstEnd(), now.firstGraceEnd());
    }

    public float share(int project, int kind)
            throws IllegalArgumentException, NoSuchElementException {
        needAccount(project, kind);
        int most = now.effectiveLimit(project, kind, true);
        if (most <= 0) {
            throw new NoSuchElementException("no hard limit above 0");
        }
        return (float) now.accounts.amountOf(accountOf(project, kind)) / (float) most;
    }

    // ---- gifts

    public int gift(int from, int to, int blocks, int ticks)
            throws IllegalArgumentException, IllegalStateException {
        needProject(from);
        needProject(to);
        needRange(blocks, 1, MOST_BLOCKS);
        needRange(ticks, 1, MOST_TICKS);
        if (from == to) {
            throw new IllegalArgumentException("both projects are the same");
        }
        if (now.gifts.isFull() || !now.canGive(from, to, blocks)) {
            throw new IllegalStateException("the gift is refused");
        }
        remember();
        now.gifts.add(from, to, blocks, now.time + ticks);
        now.setClocks();
        return now.gifts.total - 1;
    }

    public int giftOf(int gift, int what)
            throws IndexOutOfBoundsException, IllegalArgumentException {
        needGift(gift);
        switch (what) {
            case 0: return now.gifts.giverOf(gift);
            case 1: return now.gifts.getterOf(gift);
            case 2: return now.gifts.blocksOf(gift);
            case 3: return now.gifts.endOf(gift);
            default: throw new IllegalArgumentException("no such number of a gift");
        }
    }

    public int endGift(int gift) throws IndexOutOfBoundsException {
        needGift(gift);
        remember();
        now.gifts.removeAt(gift);
        now.setClocks();
        return now.gifts.total;
    }

    // ---- repair

    public int adjust(int project, int kind, int by)
            throws IllegalArgumentException, IllegalStateException {
        needAccount(project, kind);
        needRange(by, -MOST_ADJUSTED, MOST_ADJUSTED);
        int account = accountOf(project, kind);
        int amount = now.accounts.amountOf(account) + by;
        if (amount < 0 || amount > MOST_USED) {
            throw new IllegalStateException("the used amount would leave its range");
        }
        remember();
        now.accounts.setAmount(account, amount);
        now.setClocks();
        return amount;
    }

    public int repair() {
        remember();
        int wrong = now.correctAccounts();
        now.setClocks();
        return wrong;
    }

    // ---- texts and undo

    public int writePath(int folder) throws IndexOutOfBoundsException {
        needFolder(folder);
        written.length = 0;
        for (int steps = now.folders.depthOf(folder); steps >= 0; steps--) {
            written.putName(now.folders.nameOf(now.folders.ancestorOf(folder, steps)));
            if (steps > 0) {
                written.put('/');
            }
        }
        return written.length;
    }

    public int writeAccounts(int project) throws IllegalArgumentException {
        needProject(project);
        written.length = 0;
        written.putNumber(project);
        written.put(':');
        for (int kind = 0; kind < KINDS; kind++) {
            putAccount(project, kind);
        }
        return written.length;
    }

    public int writtenByte(int index) throws IndexOutOfBoundsException {
        if (index < 0 || index >= written.length) {
            throw new IndexOutOfBoundsException("no such byte");
        }
        return written.byteAt(index);
    }

    public int undo() throws IllegalStateException {
        if (undoable == 0) {
            throw new IllegalStateException("there is no change to undo");
        }
        undoable--;
        changes--;
        State before = past[Math.floorMod(changes, MOST_CHANGES)];
        if (before != null) {
            now.copyFrom(before);
        }
        return undoable;
    }

    // ---- what the calls share

    /** For each change: when nothing can refuse it any more, before it touches anything. */
    private void remember() {
        State oldest = past[Math.floorMod(changes, MOST_CHANGES)];
        if (oldest != null) {
            oldest.copyFrom(now);
        }
        changes++;
        undoable = Math.min(undoable + 1, MOST_CHANGES);
    }

    private void putAccount(int project, int kind) {
        written.put(' ');
        written.putNumber(now.accounts.amountOf(accountOf(project, kind)));
        written.put('/');
        int most = now.effectiveLimit(project, kind, true);
        if (most == NONE) {
            written.put('-');
        } else {
            written.putNumber(most);
        }
        int state = now.stateOf(project, kind);
        if (state == 2) {
            written.put('+');
        } else if (state > 2) {
            written.put('!');
        }
    }

    private void needFolder(int folder) {
        if (!now.folders.has(folder)) {
            throw new IndexOutOfBoundsException("no such folder");
        }
    }

    private void needFile(int file) {
        if (!now.files.has(file)) {
            throw new IndexOutOfBoundsException("no such file");
        }
    }

    private void needGift(int gift) {
        if (!now.gifts.has(gift)) {
            throw new IndexOutOfBoundsException("no such gift");
        }
    }

    private static void needNoReason(int reason) {
        if (reason != 0) {
            throw new IllegalStateException("it is refused");
        }
    }

    private static void needRange(int value, int least, int most) {
        if (value < least || value > most) {
            throw new IllegalArgumentException("a value out of its range");
        }
    }

    private static void needProject(int project) {
        needRange(project, 0, PROJECTS - 1);
    }

    private static void needAccount(int project, int kind) {
        needProject(project);
        needRange(kind, 0, KINDS - 1);
    }

    private static int accountOf(int project, int kind) {
        return project * KINDS + kind;
    }

    private static boolean isName(long name) {
        int letters = 0;
        long rest = name;
        while (letters < MOST_LETTERS && rest > 0) {
            long letter = rest & 31;
            if (letter < 1 || letter > 26) {
                return false;
            }
            rest >>= 5;
            letters++;
        }
        return letters > 0 && rest == 0;
    }

    /** All that undo brings back. */
    private static final class State {
        final Folders folders = new Folders();
        final Files files = new Files();
        final Accounts accounts = new Accounts();
        final Gifts gifts = new Gifts();
        int time;
        int grace = FIRST_GRACE;

        void clear() {
            folders.clear();
            files.total = 0;
            accounts.clear();
            gifts.total = 0;
            time = 0;
            grace = FIRST_GRACE;
        }

        void copyFrom(State other) {
            folders.copyFrom(other.folders);
            files.copyFrom(other.files);
            accounts.copyFrom(other.accounts);
            gifts.copyFrom(other.gifts);
            time = other.time;
            grace = other.grace;
        }

        int projectOfFile(int file) {
            return folders.projectOf(files.placeOf(file));
        }

        int countAnew(int project, int kind) {
            int sum = 0;
            for (int file = 0; file < files.total; file++) {
                if (projectOfFile(file) == project) {
                    sum += files.weightOf(file, kind);
                }
            }
            return sum;
        }

        int subtreeSum(int folder, int kind) {
            int sum = 0;
            for (int file = 0; file < files.total; file++) {
                if (folders.isInSubtree(files.placeOf(file), folder)) {
                    sum += files.weightOf(file, kind);
                }
            }
            return sum;
        }

        int openSum(int folder, int kind) {
            int sum = 0;
            for (int file = 0; file < files.total; file++) {
                if (folders.isOpenTo(files.placeOf(file), folder)) {
                    sum += files.weightOf(file, kind);
                }
            }
            return sum;
        }

        int heaviestChild(int folder) {
            int best = NONE;
            int most = NONE;
            for (int child = 0; child < folders.total; child++) {
                if (folders.parentOf(child) == folder) {
                    int blocks = subtreeSum(child, BLOCKS);
                    if (blocks > most) {
                        best = child;
                        most = blocks;
                    }
                }
            }
            return best;
        }

        int greatestFile(int project) {
            int best = NONE;
            int most = NONE;
            for (int file = 0; file < files.total; file++) {
                if (files.sizeOf(file) > most && projectOfFile(file) == project) {
                    best = file;
                    most = files.sizeOf(file);
                }
            }
            return best;
        }

        int effectiveLimit(int project, int kind, boolean hard) {
            int number = accounts.limitOf(accountOf(project, kind), hard);
            if (number == 0) {
                return NONE;
            }
            int balance = kind == BLOCKS ? gifts.balanceOf(project) : 0;
            return Math.max(number + balance, 0);
        }

        boolean wouldExceed(int project, int kind, boolean hard, int by) {
            int most = effectiveLimit(project, kind, hard);
            return most != NONE && accounts.amountOf(accountOf(project, kind)) + by > most;
        }

        int graceEnd(int project, int kind) {
            int began = accounts.clockOf(accountOf(project, kind));
            return began == NONE ? NONE : began + grace;
        }

        boolean isGraceOver(int project, int kind) {
            int end = graceEnd(project, kind);
            return end != NONE && end <= time;
        }

        int stateOf(int project, int kind) {
            if (wouldExceed(project, kind, true, 0)) {
                return 4;
            }
            if (isGraceOver(project, kind)) {
                return 3;
            }
            if (accounts.clockOf(accountOf(project, kind)) != NONE) {
                return 2;
            }
            return accounts.hasLimit(accountOf(project, kind)) ? 1 : 0;
        }

        void setClocks() {
            for (int project = 0; project < PROJECTS; project++) {
                for (int kind = 0; kind < KINDS; kind++) {
                    int account = accountOf(project, kind);
                    if (!wouldExceed(project, kind, false, 0)) {
                        accounts.setClock(account, NONE);
                    } else if (accounts.clockOf(account) == NONE) {
                        accounts.setClock(account, time);
                    }
                }
            }
        }

        int growthReason(int project, int blocks, int number) {
            if (project == NONE) {
                return 0;
            }
            if (blocks > 0 && wouldExceed(project, BLOCKS, true, blocks)) {
                return 1;
            }
            if (number > 0 && wouldExceed(project, FILES, true, number)) {
                return 2;
            }
            if (blocks > 0 && isGraceOver(project, BLOCKS)) {
                return 3;
            }
            return number > 0 && isGraceOver(project, FILES) ? 4 : 0;
        }

        /** The greatest size that the blocks alone allow; they always allow none. */
        int roomOf(int project) {
            if (project == NONE) {
                return MOST_BLOCKS;
            }
            if (isGraceOver(project, BLOCKS)) {
                return 0;
            }
            int most = effectiveLimit(project, BLOCKS, true);
            if (most == NONE) {
                return MOST_BLOCKS;
            }
            int free = most - accounts.amountOf(accountOf(project, BLOCKS));
            return Math.max(Math.min(free, MOST_BLOCKS), 0);
        }

        int openReason(int folder, int to) {
            if (folders.projectOf(folder) == to) {
                return 0;
            }
            return growthReason(to, openSum(folder, BLOCKS), openSum(folder, FILES));
        }

        /** Must come before the folder changes: the former project is read from the tree. */
        int transferOpenPart(int folder, int to) {
            int from = folders.projectOf(folder);
            if (from == to) {
                return 0;
            }
            int number = openSum(folder, FILES);
            accounts.transfer(from, to, openSum(folder, BLOCKS), number);
            return number;
        }

        int correctAccounts() {
            int wrong = 0;
            for (int project = 0; project < PROJECTS; project++) {
                for (int kind = 0; kind < KINDS; kind++) {
                    int account = accountOf(project, kind);
                    int right = countAnew(project, kind);
                    if (accounts.amountOf(account) != right) {
                        accounts.setAmount(account, right);
                        wrong++;
                    }
                }
            }
            return wrong;
        }

        boolean canGive(int from, int to, int blocks) {
            int most = effectiveLimit(from, BLOCKS, true);
            return most != NONE && effectiveLimit(to, BLOCKS, true) != NONE
                    && blocks <= most - accounts.amountOf(accountOf(from, BLOCKS));
        }

        int firstGraceEnd() {
            int first = NONE;
            for (int project = 0; project < PROJECTS; project++) {
                for (int kind = 0; kind < KINDS; kind++) {
                    first = earlierEvent(first, graceEnd(project, kind));
                }
            }
            return first;
        }

        /** Of two times (NONE: there is none) the lesser one that is later than now. */
        int earlierEvent(int one, int other) {
            if (one <= time) {
                return other > time ? other : NONE;
            }
            return other > time ? Math.min(one, other) : one;
        }
    }

    private static final class Folders {
        private final int[] parent = new int[MOST_FOLDERS];
        private final long[] name = new long[MOST_FOLDERS];
        private final int[] tag = new int[MOST_FOLDERS];
        int total;

        Folders() {
            clear();
        }

        void clear() {
            parent[ROOT] = NONE;
            name[ROOT] = ROOT_WORD;
            tag[ROOT] = NONE;
            total = 1;
        }

        void copyFrom(Folders other) {
            System.arraycopy(other.parent, 0, parent, 0, MOST_FOLDERS);
            System.arraycopy(other.name, 0, name, 0, MOST_FOLDERS);
            System.arraycopy(other.tag, 0, tag, 0, MOST_FOLDERS);
            total = other.total;
        }

        boolean has(int folder) {
            return folder >= 0 && folder < total;
        }

        boolean isFull() {
            return total >= MOST_FOLDERS;
        }

        int parentOf(int folder) {
            return has(folder) ? parent[folder] : NONE;
        }

        long nameOf(int folder) {
            return has(folder) ? name[folder] : 0;
        }

        int tagOf(int folder) {
            return has(folder) ? tag[folder] : NONE;
        }

        void setParent(int folder, int newParent) {
            if (has(folder)) {
                parent[folder] = newParent;
            }
        }

        void setTag(int folder, int project) {
            if (has(folder)) {
                tag[folder] = project;
            }
        }

        int numberOf(long wanted) {
            for (int folder = 0; folder < total; folder++) {
                if (name[folder] == wanted) {
                    return folder;
                }
            }
            return NONE;
        }

        void add(int newParent, long newName) {
            if (!isFull()) {
                parent[total] = newParent;
                name[total] = newName;
                tag[total] = NONE;
                total++;
            }
        }

        void removeAt(int folder) {
            if (!has(folder)) {
                return;
            }
            total--;
            for (int i = folder; i < total; i++) {
                parent[i] = parent[i + 1];
                name[i] = name[i + 1];
                tag[i] = tag[i + 1];
            }
            for (int i = 0; i < total; i++) {
                if (parent[i] > folder) {
                    parent[i]--;
                }
            }
        }

        int taggedTotal() {
            int tagged = 0;
            for (int folder = 0; folder < total; folder++) {
                if (tag[folder] != NONE) {
                    tagged++;
                }
            }
            return tagged;
        }

        int childrenOf(int folder) {
            int children = 0;
            for (int child = 0; child < total; child++) {
                if (parent[child] == folder) {
                    children++;
                }
            }
            return children;
        }

        int subtreeTotal(int folder) {
            int inside = 0;
            for (int other = 0; other < total; other++) {
                if (isInSubtree(other, folder)) {
                    inside++;
                }
            }
            return inside;
        }

        int depthOf(int folder) {
            int depth = 0;
            int at = parentOf(folder);
            while (at != NONE && depth < MOST_FOLDERS) {
                depth++;
                at = parentOf(at);
            }
            return depth;
        }

        int ancestorOf(int folder, int steps) {
            int at = folder;
            for (int i = 0; i < steps; i++) {
                at = parentOf(at);
            }
            return at;
        }

        int projectOf(int folder) {
            int at = folder;
            for (int steps = 0; steps < MOST_FOLDERS && at != NONE; steps++) {
                if (tagOf(at) != NONE) {
                    return tagOf(at);
                }
                at = parentOf(at);
            }
            return NONE;
        }

        int projectIfTagged(int folder, int project) {
            return project != NONE ? project : projectOf(parentOf(folder));
        }

        int projectIfMoved(int folder, int newParent) {
            return tagOf(folder) != NONE ? tagOf(folder) : projectOf(newParent);
        }

        boolean isInSubtree(int inner, int folder) {
            int at = inner;
            for (int steps = 0; steps < MOST_FOLDERS && at != NONE; steps++) {
                if (at == folder) {
                    return true;
                }
                at = parentOf(at);
            }
            return false;
        }

        /** Whether files directly in the inner folder belong to the open part of the folder. */
        boolean isOpenTo(int inner, int folder) {
            int at = inner;
            for (int steps = 0; steps < MOST_FOLDERS && at != NONE; steps++) {
                if (at == folder) {
                    return true;
                }
                if (tagOf(at) != NONE) {
                    return false;
                }
                at = parentOf(at);
            }
            return false;
        }

        int nextChild(int folder, int behind) {
            for (int child = behind + 1; child < total; child++) {
                if (parentOf(child) == folder) {
                    return child;
                }
            }
            return NONE;
        }

        int nextInWalk(int folder) {
            int next = nextChild(folder, NONE);
            int at = folder;
            for (int steps = 0; steps < MOST_FOLDERS && next == NONE && at != ROOT; steps++) {
                next = nextChild(parentOf(at), at);
                at = parentOf(at);
            }
            return next;
        }
    }

    private static final class Files {
        private final int[] place = new int[MOST_FILES];
        private final int[] size = new int[MOST_FILES];
        int total;

        void copyFrom(Files other) {
            System.arraycopy(other.place, 0, place, 0, MOST_FILES);
            System.arraycopy(other.size, 0, size, 0, MOST_FILES);
            total = other.total;
        }

        boolean has(int file) {
            return file >= 0 && file < total;
        }

        boolean isFull() {
            return total >= MOST_FILES;
        }

        int placeOf(int file) {
            return has(file) ? place[file] : NONE;
        }

        int sizeOf(int file) {
            return has(file) ? size[file] : 0;
        }

        /** What the file counts in an account of this kind. */
        int weightOf(int file, int kind) {
            return kind == BLOCKS ? sizeOf(file) : 1;
        }

        void setPlace(int file, int folder) {
            if (has(file)) {
                place[file] = folder;
            }
        }

        void setSize(int file, int blocks) {
            if (has(file)) {
                size[file] = blocks;
            }
        }

        void add(int folder, int blocks) {
            if (!isFull()) {
                place[total] = folder;
                size[total] = blocks;
                total++;
            }
        }

        void removeAt(int file) {
            if (!has(file)) {
                return;
            }
            total--;
            for (int i = file; i < total; i++) {
                place[i] = place[i + 1];
                size[i] = size[i + 1];
            }
        }

        int totalIn(int folder) {
            int inside = 0;
            for (int file = 0; file < total; file++) {
                if (place[file] == folder) {
                    inside++;
                }
            }
            return inside;
        }

        /** Folders behind a removed one have got numbers that are lower by 1. */
        void closeGap(int removedFolder) {
            for (int file = 0; file < total; file++) {
                if (place[file] > removedFolder) {
                    place[file]--;
                }
            }
        }
    }

    private static final class Accounts {
        private final int[] amount = new int[ACCOUNTS];
        private final int[] soft = new int[ACCOUNTS];
        private final int[] hard = new int[ACCOUNTS];
        private final int[] clock = new int[ACCOUNTS];

        Accounts() {
            clear();
        }

        void clear() {
            for (int i = 0; i < ACCOUNTS; i++) {
                amount[i] = 0;
                soft[i] = 0;
                hard[i] = 0;
                clock[i] = NONE;
            }
        }

        void copyFrom(Accounts other) {
            System.arraycopy(other.amount, 0, amount, 0, ACCOUNTS);
            System.arraycopy(other.soft, 0, soft, 0, ACCOUNTS);
            System.arraycopy(other.hard, 0, hard, 0, ACCOUNTS);
            System.arraycopy(other.clock, 0, clock, 0, ACCOUNTS);
        }

        int amountOf(int account) {
            return account >= 0 && account < ACCOUNTS ? amount[account] : 0;
        }

        void setAmount(int account, int number) {
            if (account >= 0 && account < ACCOUNTS) {
                amount[account] = number;
            }
        }

        /** 0 if there is no such limit. */
        int limitOf(int account, boolean ofHard) {
            int[] limits = ofHard ? hard : soft;
            return account >= 0 && account < ACCOUNTS ? limits[account] : 0;
        }

        boolean hasLimit(int account) {
            return limitOf(account, false) > 0 || limitOf(account, true) > 0;
        }

        void setLimits(int account, int newSoft, int newHard) {
            if (account >= 0 && account < ACCOUNTS) {
                soft[account] = newSoft;
                hard[account] = newHard;
            }
        }

        /** The time at which the clock began, NONE if it does not run. */
        int clockOf(int account) {
            return account >= 0 && account < ACCOUNTS ? clock[account] : NONE;
        }

        void setClock(int account, int began) {
            if (account >= 0 && account < ACCOUNTS) {
                clock[account] = began;
            }
        }

        /** A loss never brings an amount below 0. */
        private void add(int account, int by) {
            setAmount(account, Math.max(amountOf(account) + by, 0));
        }

        /** Nothing happens for no project (NONE). */
        void change(int project, int blocks, int number) {
            if (project != NONE) {
                add(accountOf(project, BLOCKS), blocks);
                add(accountOf(project, FILES), number);
            }
        }

        void transfer(int from, int to, int blocks, int number) {
            if (from != to) {
                change(to, blocks, number);
                change(from, -blocks, -number);
            }
        }
    }

    private static final class Gifts {
        private final int[] giver = new int[MOST_GIFTS];
        private final int[] getter = new int[MOST_GIFTS];
        private final int[] blocks = new int[MOST_GIFTS];
        private final int[] end = new int[MOST_GIFTS];
        int total;

        void copyFrom(Gifts other) {
            System.arraycopy(other.giver, 0, giver, 0, MOST_GIFTS);
            System.arraycopy(other.getter, 0, getter, 0, MOST_GIFTS);
            System.arraycopy(other.blocks, 0, blocks, 0, MOST_GIFTS);
            System.arraycopy(other.end, 0, end, 0, MOST_GIFTS);
            total = other.total;
        }

        boolean has(int gift) {
            return gift >= 0 && gift < total;
        }

        boolean isFull() {
            return total >= MOST_GIFTS;
        }

        int giverOf(int gift) {
            return has(gift) ? giver[gift] : NONE;
        }

        int getterOf(int gift) {
            return has(gift) ? getter[gift] : NONE;
        }

        int blocksOf(int gift) {
            return has(gift) ? blocks[gift] : 0;
        }

        int endOf(int gift) {
            return has(gift) ? end[gift] : NONE;
        }

        void add(int from, int to, int number, int newEnd) {
            if (!isFull()) {
                giver[total] = from;
                getter[total] = to;
                blocks[total] = number;
                end[total] = newEnd;
                total++;
            }
        }

        void removeAt(int gift) {
            if (!has(gift)) {
                return;
            }
            total--;
            for (int i = gift; i < total; i++) {
                giver[i] = giver[i + 1];
                getter[i] = getter[i + 1];
                blocks[i] = blocks[i + 1];
                end[i] = end[i + 1];
            }
        }

        int removeEnded(int time) {
            int before = total;
            for (int gift = before - 1; gift >= 0; gift--) {
                if (endOf(gift) <= time) {
                    removeAt(gift);
                }
            }
            return before - total;
        }

        int firstEnd() {
            int first = NONE;
            for (int gift = 0; gift < total; gift++) {
                if (first == NONE || end[gift] < first) {
                    first = end[gift];
                }
            }
            return first;
        }

        boolean concern(int project) {
            for (int gift = 0; gift < total; gift++) {
                if (giver[gift] == project || getter[gift] == project) {
                    return true;
                }
            }
            return false;
        }

        int balanceOf(int project) {
            int balance = 0;
            for (int gift = 0; gift < total; gift++) {
                if (getter[gift] == project) {
                    balance += blocks[gift];
                }
                if (giver[gift] == project) {
                    balance -= blocks[gift];
                }
            }
            return balance;
        }
    }

    /** The text buffer and the written text. */
    private static final class Bytes {
        private final byte[] bytes = new byte[MOST_TEXT];
        int length;

        void put(int sign) {
            if (length >= 0 && length < MOST_TEXT) {
                bytes[length] = (byte) sign;
                length++;
            }
        }

        void putFour(int signs) {
            put(signs >> 24);
            put(signs >> 16);
            put(signs >> 8);
            put(signs);
        }

        void putName(long name) {
            for (int shift = 5 * (MOST_LETTERS - 1); shift >= 0; shift -= 5) {
                int letter = (int) (name >> shift & 31);
                if (letter > 0) {
                    put('a' + letter - 1);
                }
            }
        }

        void putNumber(int number) {
            boolean begun = false;
            for (int unit = 1000000000; unit > 0; unit /= 10) {
                int digit = number / unit % 10;
                begun = begun || digit > 0 || unit == 1;
                if (begun) {
                    put('0' + digit);
                }
            }
        }

        /** 0 to 255; NONE where there is no byte. */
        int byteAt(int index) {
            return index >= 0 && index < length && index < MOST_TEXT ? bytes[index] & 255 : NONE;
        }
    }

    /**
     * Reads a text into a draft, so that an error leaves the present tree as it is. An error is
     * always at the first byte of the token that began last.
     */
    private static final class Reader {
        final State draft = new State();
        int error;
        int errorAt = NONE;
        private final byte[] bytes;
        private int length;
        private int at;
        private int tokenAt;

        Reader(Bytes text) {
            bytes = text.bytes;
        }

        void readTree(int newLength) {
            length = Math.min(newLength, bytes.length);
            at = 0;
            error = 0;
            errorAt = NONE;
            draft.clear();
            beginToken();
            for (int i = 0; i < MOST_TEXT && error == 0 && at < length; i++) {
                readStatement();
                beginToken();
            }
        }

        private void fail(int code) {
            if (error == 0) {
                error = code;
                errorAt = tokenAt;
            }
        }

        private void beginToken() {
            while (at < length && bytes[at] == ' ') {
                at++;
            }
            tokenAt = at;
        }

        private void readStatement() {
            long word = readWord();
            if (word == GRACE_WORD) {
                readGrace();
            } else if (word == LIMIT_WORD) {
                readLimits();
            } else if (word == FOLDER_WORD) {
                readFolder();
            } else if (word == TAG_WORD) {
                readTag();
            } else if (word == FILE_WORD) {
                readFile();
            } else {
                fail(SYNTAX_ERROR);
            }
            readSemicolon();
        }

        private void readGrace() {
            int grace = readNumber(1, MOST_GRACE);
            if (error == 0) {
                draft.grace = grace;
            }
        }

        private void readLimits() {
            int project = readNumber(0, PROJECTS - 1);
            for (int kind = 0; kind < KINDS; kind++) {
                int soft = readNumber(0, MOST_LIMIT);
                int hard = readNumber(0, MOST_LIMIT);
                if (hard > 0 && hard < soft) {
                    fail(VALUE_ERROR);
                }
                if (error == 0) {
                    draft.accounts.setLimits(accountOf(project, kind), soft, hard);
                }
            }
        }

        private void readFolder() {
            if (draft.folders.isFull()) {
                fail(TOO_MANY);
            }
            long name = readWord();
            if (draft.folders.numberOf(name) != NONE) {
                fail(VALUE_ERROR);
            }
            int parent = readFolderName();
            if (error == 0) {
                draft.folders.add(parent, name);
            }
        }

        private void readTag() {
            int folder = readFolderName();
            int project = readNumber(0, PROJECTS - 1);
            if (error == 0) {
                draft.folders.setTag(folder, project);
            }
        }

        private void readFile() {
            if (draft.files.isFull()) {
                fail(TOO_MANY);
            }
            int folder = readFolderName();
            int blocks = readNumber(0, MOST_BLOCKS);
            if (error == 0) {
                draft.files.add(folder, blocks);
            }
        }

        /** The word as find takes a name; what is no NAME can be no quoted word either. */
        private long readWord() {
            beginToken();
            long word = 0;
            while (at < length && bytes[at] >= 'a' && bytes[at] <= 'z') {
                word = word << 5 | (bytes[at] - 'a' + 1);
                at++;
            }
            int letters = at - tokenAt;
            if (letters < 1 || letters > MOST_LETTERS) {
                fail(SYNTAX_ERROR);
            }
            return word;
        }

        private int readFolderName() {
            int folder = draft.folders.numberOf(readWord());
            if (folder == NONE) {
                fail(VALUE_ERROR);
            }
            return folder;
        }

        private int readNumber(int least, int most) {
            beginToken();
            int number = 0;
            while (at < length && bytes[at] >= '0' && bytes[at] <= '9') {
                number = Math.min(number * 10 + bytes[at] - '0', MOST_USED);
                at++;
            }
            if (at == tokenAt) {
                fail(SYNTAX_ERROR);
            }
            if (number < least || number > most) {
                fail(VALUE_ERROR);
            }
            return number;
        }

        private void readSemicolon() {
            beginToken();
            if (at < length && bytes[at] == ';') {
                at++;
            } else {
                fail(SYNTAX_ERROR);
            }
        }
    }
}
