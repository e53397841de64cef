import java.util.ArrayDeque;
import java.util.ArrayList;
import java.util.Deque;
import java.util.HashMap;
import java.util.IdentityHashMap;
import java.util.List;
import java.util.Map;
import java.util.NoSuchElementException;
import java.util.regex.Matcher;
import java.util.regex.Pattern;

/**
 * The document once more, written for the test: folders that know their parents, whole copies for
 * undo, texts as Strings, and everything counted anew whenever it is asked.
 */
final class Model implements Caller {

    private static final class Folder {
        Folder parent;
        String name;
        Integer tag;
    }

    private static final class File {
        Folder folder;
        int size;
    }

    private record Gift(int from, int to, int blocks, int end) {
    }

    private static final class Wrong extends RuntimeException {
        final int code;
        final int position;

        Wrong(int code, int position) {
            this.code = code;
            this.position = position;
        }
    }

    private static final class World {
        final List<Folder> folders = new ArrayList<>();
        final List<File> files = new ArrayList<>();
        final List<Gift> gifts = new ArrayList<>();
        /** Soft and hard limits: project, kind, soft (0) or hard (1). */
        final int[][][] limits = new int[8][2][2];
        final int[][] used = new int[8][2];
        final Integer[][] clocks = new Integer[8][2];
        int time;
        int grace = 10;

        World() {
        }

        World copy() {
            World copy = new World();
            Map<Folder, Folder> twins = new IdentityHashMap<>();
            for (Folder folder : folders) {
                twins.put(folder, new Folder());
            }
            for (Folder folder : folders) {
                Folder twin = twins.get(folder);
                twin.parent = folder.parent == null ? null : twins.get(folder.parent);
                twin.name = folder.name;
                twin.tag = folder.tag;
                copy.folders.add(twin);
            }
            for (File file : files) {
                File twin = new File();
                twin.folder = twins.get(file.folder);
                twin.size = file.size;
                copy.files.add(twin);
            }
            copy.gifts.addAll(gifts);
            for (int p = 0; p < 8; p++) {
                for (int k = 0; k < 2; k++) {
                    copy.limits[p][k] = limits[p][k].clone();
                    copy.used[p][k] = used[p][k];
                    copy.clocks[p][k] = clocks[p][k];
                }
            }
            copy.time = time;
            copy.grace = grace;
            return copy;
        }

        List<Folder> children(Folder folder) {
            List<Folder> children = new ArrayList<>();
            for (Folder child : folders) {
                if (child.parent == folder) {
                    children.add(child);
                }
            }
            return children;
        }

        void walk(Folder folder, List<Folder> order) {
            order.add(folder);
            for (Folder child : children(folder)) {
                walk(child, order);
            }
        }

        List<Folder> subtree(Folder folder) {
            List<Folder> order = new ArrayList<>();
            walk(folder, order);
            return order;
        }

        Integer project(Folder folder) {
            if (folder == null || folder.tag != null) {
                return folder == null ? null : folder.tag;
            }
            return project(folder.parent);
        }

        List<File> directly(Folder folder) {
            List<File> inside = new ArrayList<>();
            for (File file : files) {
                if (file.folder == folder) {
                    inside.add(file);
                }
            }
            return inside;
        }

        List<File> inside(Folder folder) {
            List<File> inside = new ArrayList<>();
            for (Folder each : subtree(folder)) {
                inside.addAll(directly(each));
            }
            return inside;
        }

        List<File> open(Folder folder) {
            List<File> open = directly(folder);
            for (Folder child : children(folder)) {
                if (child.tag == null) {
                    open.addAll(open(child));
                }
            }
            return open;
        }

        List<File> ofProject(Integer project) {
            List<File> found = new ArrayList<>();
            for (File file : files) {
                Integer its = project(file.folder);
                if (its == null ? project == null : its.equals(project)) {
                    found.add(file);
                }
            }
            return found;
        }

        static int amount(List<File> list, int kind) {
            return kind == 1 ? list.size() : list.stream().mapToInt(f -> f.size).sum();
        }

        /** The effective limit, null for none. */
        Integer effective(int project, int kind, int which) {
            int number = limits[project][kind][which];
            if (number == 0) {
                return null;
            }
            for (Gift gift : gifts) {
                if (kind == 0 && gift.to() == project) {
                    number += gift.blocks();
                }
                if (kind == 0 && gift.from() == project) {
                    number -= gift.blocks();
                }
            }
            return number < 0 ? 0 : number;
        }

        boolean over(int project, int kind) {
            return clocks[project][kind] != null && time - clocks[project][kind] >= grace;
        }

        int reason(Integer project, int blocks, int number) {
            if (project == null) {
                return 0;
            }
            int[] growth = {blocks, number};
            for (int kind = 0; kind < 2; kind++) {
                Integer hard = effective(project, kind, 1);
                if (growth[kind] > 0 && hard != null && used[project][kind] + growth[kind] > hard) {
                    return 1 + kind;
                }
            }
            for (int kind = 0; kind < 2; kind++) {
                if (growth[kind] > 0 && over(project, kind)) {
                    return 3 + kind;
                }
            }
            return 0;
        }

        int state(int project, int kind) {
            Integer hard = effective(project, kind, 1);
            if (hard != null && used[project][kind] > hard) {
                return 4;
            }
            if (clocks[project][kind] != null) {
                return over(project, kind) ? 3 : 2;
            }
            return limits[project][kind][0] + limits[project][kind][1] > 0 ? 1 : 0;
        }

        void setClocks() {
            for (int p = 0; p < 8; p++) {
                for (int k = 0; k < 2; k++) {
                    Integer soft = effective(p, k, 0);
                    boolean runs = soft != null && used[p][k] > soft;
                    clocks[p][k] = !runs ? null : clocks[p][k] == null ? Integer.valueOf(time) : clocks[p][k];
                }
            }
        }

        void use(Integer project, int blocks, int number) {
            if (project != null) {
                used[project][0] = Math.max(0, used[project][0] + blocks);
                used[project][1] = Math.max(0, used[project][1] + number);
            }
        }

        void recount() {
            for (int p = 0; p < 8; p++) {
                for (int k = 0; k < 2; k++) {
                    used[p][k] = amount(ofProject(p), k);
                }
            }
        }
    }

    private World w = new World();
    private final Deque<World> history = new ArrayDeque<>();
    private String buffer = "";
    private String written = "";
    private int error = -1;

    Model() {
        Folder root = new Folder();
        root.name = "root";
        w.folders.add(root);
    }

    @Override
    public long call(String name, long... a) {
        switch (name) {
            case "append": return append(a);
            case "load": return load((int) a[0]);
            case "errorPosition": return error;
            case "count": return count((int) a[0]);
            case "find": return find(a[0]);
            case "folder": return folder((int) a[0], (int) a[1]);
            case "walked":
                return w.folders.indexOf(at(w.subtree(w.folders.get(0)), a[0]));
            case "heaviest": return heaviest(at(w.folders, a[0]));
            case "addFolder": return addFolder(at(w.folders, a[0]), a[1]);
            case "removeFolder": return removeFolder(at(w.folders, a[0]));
            case "tagReason": return tagReason(at(w.folders, a[0]), (int) a[1]);
            case "tag": return tag(at(w.folders, a[0]), (int) a[1]);
            case "moveReason": return moveReason(at(w.folders, a[0]), at(w.folders, a[1]));
            case "moveFolder": return moveFolder(at(w.folders, a[0]), at(w.folders, a[1]));
            case "file": return file(at(w.files, a[0]), (int) a[1]);
            case "writeReason": return writeReason(at(w.folders, a[0]), (int) a[1]);
            case "write": return write(at(w.folders, a[0]), (int) a[1]);
            case "room": return room(at(w.folders, a[0]));
            case "resize": return resize(at(w.files, a[0]), (int) a[1]);
            case "delete": return delete(at(w.files, a[0]));
            case "moveFile": return moveFile(at(w.files, a[0]), at(w.folders, a[1]));
            case "greatest": return greatest((int) a[0]);
            case "setGrace": return setGrace((int) a[0]);
            case "tick": return tick((int) a[0]);
            case "nextEvent": return nextEvent();
            case "gift": return gift((int) a[0], (int) a[1], (int) a[2], (int) a[3]);
            case "giftOf": return giftOf(at(w.gifts, a[0]), (int) a[1]);
            case "endGift": return endGift(at(w.gifts, a[0]));
            case "repair": return repair();
            case "writePath": return writePath(at(w.folders, a[0]));
            case "writeAccounts": return writeAccounts((int) a[0]);
            case "writtenByte":
                index(a[0], written.length());
                return written.charAt((int) a[0]);
            case "undo": return undo();
            default: return account(name, (int) a[0], (int) a[1], a);
        }
    }

    private long account(String name, int project, int kind, long[] a) {
        range(project, 0, 7);
        range(kind, 0, 1);
        switch (name) {
            case "used": return w.used[project][kind];
            case "counted": return World.amount(w.ofProject(project), kind);
            case "limit": return none(w.effective(project, kind, a[2] != 0 ? 1 : 0));
            case "setLimit": return setLimit(project, kind, (int) a[2], (int) a[3]);
            case "state": return w.state(project, kind);
            case "graceLeft":
                Integer began = w.clocks[project][kind];
                return began == null ? -1 : Math.max(0, w.grace - (w.time - began));
            case "share":
                Integer hard = w.effective(project, kind, 1);
                if (hard == null || hard == 0) {
                    throw new NoSuchElementException();
                }
                return Float.floatToRawIntBits(w.used[project][kind] / (float) hard);
            case "adjust": return adjust(project, kind, (int) a[2]);
            default: throw new AssertionError(name);
        }
    }

    private static long none(Integer number) {
        return number == null ? -1 : number;
    }

    private static void index(long index, int size) {
        if (index < 0 || index >= size) {
            throw new IndexOutOfBoundsException();
        }
    }

    private static <T> T at(List<T> list, long index) {
        index(index, list.size());
        return list.get((int) index);
    }

    private static void range(long value, long least, long most) {
        if (value < least || value > most) {
            throw new IllegalArgumentException();
        }
    }

    private static void allowed(boolean allowed) {
        if (!allowed) {
            throw new IllegalStateException();
        }
    }

    private void begin() {
        history.addLast(w.copy());
        if (history.size() > 8) {
            history.removeFirst();
        }
    }

    private long append(long[] a) {
        allowed(buffer.length() + 20 <= 900);
        StringBuilder more = new StringBuilder(buffer);
        for (long word : a) {
            for (int i = 3; i >= 0; i--) {
                more.append((char) (word >> 8 * i & 255));
            }
        }
        buffer = more.toString();
        return buffer.length();
    }

    private long load(int length) {
        range(length, 0, buffer.length());
        String text = buffer.substring(0, length);
        buffer = "";
        World read;
        try {
            read = new TextReader(text).read();
        } catch (Wrong wrong) {
            error = wrong.position;
            return wrong.code;
        }
        error = -1;
        begin();
        w = read;
        w.recount();
        w.setClocks();
        return w.files.size();
    }

    private long count(int what) {
        range(what, 0, 7);
        int tagged = 0;
        for (Folder folder : w.folders) {
            tagged += folder.tag != null ? 1 : 0;
        }
        int[] numbers = {w.folders.size(), w.files.size(), World.amount(w.files, 0), w.time, w.grace,
            w.gifts.size(), tagged, w.ofProject(null).size()};
        return numbers[what];
    }

    /** Null if the number is no name. */
    static String letters(long number) {
        StringBuilder letters = new StringBuilder();
        for (long rest = number; rest != 0; rest >>>= 5) {
            int letter = (int) (rest & 31);
            if (letter < 1 || letter > 26) {
                return null;
            }
            letters.insert(0, (char) (96 + letter));
        }
        return letters.length() >= 1 && letters.length() <= 8 ? letters.toString() : null;
    }

    private long find(long number) {
        String name = letters(number);
        for (int i = 0; i < w.folders.size(); i++) {
            if (w.folders.get(i).name.equals(name)) {
                return i;
            }
        }
        return -1;
    }

    private long folder(int number, int what) {
        Folder folder = at(w.folders, number);
        range(what, 0, 9);
        switch (what) {
            case 0: return w.folders.indexOf(folder.parent);
            case 1: return none(folder.tag);
            case 2: return none(w.project(folder));
            case 3: return w.children(folder).size();
            case 4: return w.directly(folder).size();
            case 5: return path(folder).split("/").length - 1;
            case 6: return w.subtree(folder).size();
            case 7: return w.inside(folder).size();
            case 8: return World.amount(w.inside(folder), 0);
            default: return w.open(folder).size();
        }
    }

    private static String path(Folder folder) {
        return folder.parent == null ? folder.name : path(folder.parent) + "/" + folder.name;
    }

    private long heaviest(Folder folder) {
        Folder best = null;
        for (Folder child : w.children(folder)) {
            if (best == null || World.amount(w.inside(child), 0) > World.amount(w.inside(best), 0)) {
                best = child;
            }
        }
        if (best == null) {
            throw new NoSuchElementException();
        }
        return w.folders.indexOf(best);
    }

    private long addFolder(Folder parent, long number) {
        if (letters(number) == null || find(number) >= 0) {
            throw new IllegalArgumentException();
        }
        allowed(w.folders.size() < 40);
        begin();
        Folder folder = new Folder();
        folder.parent = parent;
        folder.name = letters(number);
        w.folders.add(folder);
        w.setClocks();
        return w.folders.size() - 1;
    }

    private long removeFolder(Folder folder) {
        allowed(folder.parent != null && w.subtree(folder).size() == 1 && w.directly(folder).isEmpty());
        begin();
        w.folders.remove(folder);
        w.setClocks();
        return w.folders.size();
    }

    private Integer ifTagged(Folder folder, int project) {
        return project >= 0 ? Integer.valueOf(project) : w.project(folder.parent);
    }

    private static boolean same(Integer one, Integer other) {
        return one == null ? other == null : one.equals(other);
    }

    private int openReason(Folder folder, Integer from, Integer to) {
        List<File> open = w.open(folder);
        return same(from, to) ? 0 : w.reason(to, World.amount(open, 0), World.amount(open, 1));
    }

    private int transfer(Folder folder, Integer from, Integer to) {
        if (same(from, to)) {
            return 0;
        }
        List<File> open = w.open(folder);
        int blocks = World.amount(open, 0);
        w.use(to, blocks, open.size());
        w.use(from, -blocks, -open.size());
        return open.size();
    }

    private long tagReason(Folder folder, int project) {
        range(project, -1, 7);
        return openReason(folder, w.project(folder), ifTagged(folder, project));
    }

    private long tag(Folder folder, int project) {
        allowed(tagReason(folder, project) == 0);
        begin();
        Integer from = w.project(folder);
        folder.tag = project < 0 ? null : Integer.valueOf(project);
        int moved = transfer(folder, from, w.project(folder));
        w.setClocks();
        return moved;
    }

    private long moveReason(Folder folder, Folder parent) {
        if (folder.parent == null || w.subtree(folder).contains(parent)) {
            return 5;
        }
        return folder.tag != null ? 0 : openReason(folder, w.project(folder), w.project(parent));
    }

    private long moveFolder(Folder folder, Folder parent) {
        allowed(moveReason(folder, parent) == 0);
        begin();
        Integer from = w.project(folder);
        folder.parent = parent;
        int moved = transfer(folder, from, w.project(folder));
        w.setClocks();
        return moved;
    }

    private long file(File file, int what) {
        range(what, 0, 2);
        return what == 0 ? w.folders.indexOf(file.folder) : what == 1 ? file.size : none(w.project(file.folder));
    }

    private long writeReason(Folder folder, int blocks) {
        range(blocks, 0, 9999);
        return w.reason(w.project(folder), blocks, 1);
    }

    private long write(Folder folder, int blocks) {
        range(blocks, 0, 9999);
        allowed(w.files.size() < 60 && writeReason(folder, blocks) == 0);
        begin();
        File file = new File();
        file.folder = folder;
        file.size = blocks;
        w.files.add(file);
        w.use(w.project(folder), blocks, 1);
        w.setClocks();
        return w.files.size() - 1;
    }

    private long room(Folder folder) {
        for (int blocks = 9999; blocks >= 0; blocks--) {
            if (writeReason(folder, blocks) == 0) {
                return blocks;
            }
        }
        return -1;
    }

    private long resize(File file, int blocks) {
        range(blocks, 0, 9999);
        int before = file.size;
        allowed(w.reason(w.project(file.folder), blocks - before, 0) == 0);
        begin();
        file.size = blocks;
        w.use(w.project(file.folder), blocks - before, 0);
        w.setClocks();
        return before;
    }

    private long delete(File file) {
        begin();
        w.files.remove(file);
        w.use(w.project(file.folder), -file.size, -1);
        w.setClocks();
        return w.files.size();
    }

    private long moveFile(File file, Folder folder) {
        Integer from = w.project(file.folder);
        Integer to = w.project(folder);
        allowed(same(from, to) || w.reason(to, file.size, 1) == 0);
        begin();
        file.folder = folder;
        if (!same(from, to)) {
            w.use(to, file.size, 1);
            w.use(from, -file.size, -1);
        }
        w.setClocks();
        return same(from, to) ? 0 : 1;
    }

    private long greatest(int project) {
        range(project, 0, 7);
        File best = null;
        for (File file : w.ofProject(project)) {
            best = best == null || file.size > best.size ? file : best;
        }
        if (best == null) {
            throw new NoSuchElementException();
        }
        return w.files.indexOf(best);
    }

    private long setLimit(int project, int kind, int soft, int hard) {
        range(soft, 0, 99999);
        range(hard, 0, 99999);
        range(hard == 0 ? 0 : soft, 0, hard);
        for (Gift gift : w.gifts) {
            allowed(hard > 0 || kind == 1 || gift.from() != project && gift.to() != project);
        }
        begin();
        w.limits[project][kind] = new int[] {soft, hard};
        w.setClocks();
        return w.state(project, kind);
    }

    private long setGrace(int grace) {
        range(grace, 1, 99);
        begin();
        int before = w.grace;
        w.grace = grace;
        w.setClocks();
        return before;
    }

    private long tick(int ticks) {
        range(ticks, 1, 999);
        allowed(w.time + ticks <= 9999);
        begin();
        w.time += ticks;
        int before = w.gifts.size();
        w.gifts.removeIf(gift -> gift.end() <= w.time);
        w.setClocks();
        return before - w.gifts.size();
    }

    private long nextEvent() {
        List<Integer> events = new ArrayList<>();
        for (Gift gift : w.gifts) {
            events.add(gift.end());
        }
        for (Integer[] clocks : w.clocks) {
            for (Integer clock : clocks) {
                if (clock != null) {
                    events.add(clock + w.grace);
                }
            }
        }
        return events.stream().filter(event -> event > w.time).min(Integer::compare).orElse(-1);
    }

    private long gift(int from, int to, int blocks, int ticks) {
        range(from, 0, 7);
        range(to, 0, 7);
        range(blocks, 1, 9999);
        range(ticks, 1, 999);
        range(from == to ? 1 : 0, 0, 0);
        Integer most = w.effective(from, 0, 1);
        allowed(most != null && w.limits[to][0][1] > 0 && w.used[from][0] + blocks <= most
                && w.gifts.size() < 12);
        begin();
        w.gifts.add(new Gift(from, to, blocks, w.time + ticks));
        w.setClocks();
        return w.gifts.size() - 1;
    }

    private static long giftOf(Gift gift, int what) {
        range(what, 0, 3);
        return new int[] {gift.from(), gift.to(), gift.blocks(), gift.end()}[what];
    }

    private long endGift(Gift gift) {
        begin();
        int number = 0;
        while (w.gifts.get(number) != gift) {
            number++;
        }
        w.gifts.remove(number);
        w.setClocks();
        return w.gifts.size();
    }

    private long adjust(int project, int kind, int by) {
        range(by, -9999, 9999);
        int amount = w.used[project][kind] + by;
        allowed(amount >= 0 && amount <= 999999);
        begin();
        w.used[project][kind] = amount;
        w.setClocks();
        return amount;
    }

    private long repair() {
        begin();
        World before = w.copy();
        w.recount();
        w.setClocks();
        int wrong = 0;
        for (int account = 0; account < 16; account++) {
            wrong += before.used[account / 2][account % 2] != w.used[account / 2][account % 2] ? 1 : 0;
        }
        return wrong;
    }

    private long writePath(Folder folder) {
        written = path(folder);
        return written.length();
    }

    private long writeAccounts(int project) {
        range(project, 0, 7);
        written = project + ":";
        for (int kind = 0; kind < 2; kind++) {
            Integer hard = w.effective(project, kind, 1);
            written += " " + w.used[project][kind] + "/" + (hard == null ? "-" : hard.toString())
                    + new String[] {"", "", "+", "!", "!"}[w.state(project, kind)];
        }
        return written.length();
    }

    private long undo() {
        allowed(!history.isEmpty());
        w = history.removeLast();
        return history.size();
    }

    /** Reads a text by regular expressions; a Wrong tells the first error. */
    private static final class TextReader {
        private static final Pattern SPACES = Pattern.compile(" *");
        private static final Pattern WORD = Pattern.compile("[a-z]+");
        private static final Pattern DIGITS = Pattern.compile("[0-9]+");
        private final String text;
        private final World world = new World();
        private final Map<String, Folder> byName = new HashMap<>();
        private int at;
        private int began;

        TextReader(String text) {
            this.text = text;
            Folder root = new Folder();
            root.name = "root";
            world.folders.add(root);
            byName.put("root", root);
        }

        World read() {
            take(SPACES);
            while (at < text.length()) {
                statement();
                token(Pattern.compile(";"));
                take(SPACES);
            }
            return world;
        }

        private String take(Pattern pattern) {
            Matcher matcher = pattern.matcher(text).region(at, text.length());
            if (!matcher.lookingAt()) {
                return null;
            }
            at = matcher.end();
            return matcher.group();
        }

        private String token(Pattern pattern) {
            take(SPACES);
            began = at;
            String token = take(pattern);
            if (token == null) {
                throw new Wrong(-2, began);
            }
            return token;
        }

        private void check(boolean right) {
            if (!right) {
                throw new Wrong(-3, began);
            }
        }

        private int number(int least, int most) {
            String digits = token(DIGITS).replaceFirst("^0+(?=.)", "");
            check(digits.length() < 8);
            int number = Integer.parseInt(digits);
            check(number >= least && number <= most);
            return number;
        }

        private String name() {
            String name = token(WORD);
            if (name.length() > 8) {
                throw new Wrong(-2, began);
            }
            return name;
        }

        private Folder known() {
            Folder folder = byName.get(name());
            check(folder != null);
            return folder;
        }

        private void notFull(int size, int most) {
            if (size == most) {
                throw new Wrong(-4, began);
            }
        }

        private void statement() {
            switch (token(WORD)) {
                case "grace":
                    world.grace = number(1, 99);
                    break;
                case "limit":
                    int project = number(0, 7);
                    for (int kind = 0; kind < 2; kind++) {
                        int soft = number(0, 99999);
                        int hard = number(0, 99999);
                        check(hard == 0 || soft <= hard);
                        world.limits[project][kind] = new int[] {soft, hard};
                    }
                    break;
                case "folder":
                    notFull(world.folders.size(), 40);
                    Folder folder = new Folder();
                    folder.name = name();
                    check(!byName.containsKey(folder.name));
                    folder.parent = known();
                    byName.put(folder.name, folder);
                    world.folders.add(folder);
                    break;
                case "tag":
                    Folder tagged = known();
                    tagged.tag = number(0, 7);
                    break;
                case "file":
                    notFull(world.files.size(), 60);
                    File file = new File();
                    file.folder = known();
                    file.size = number(0, 9999);
                    world.files.add(file);
                    break;
                default:
                    throw new Wrong(-2, began);
            }
        }
    }
}
