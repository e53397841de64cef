/** Promises 1 to 42 of the document: each of their sentences that names a boundary case, each "Throws" among them. */
public final class EdgesOfPromisesTest {

    private static final Edges e = new Edges();
    private static final Checks c = e.checks;
    private static final int NONE = QuotaTree.NONE;
    private static final String NO_FOLDER = "Throws IndexOutOfBoundsException if the folder does not exist";
    private static final String NO_FILE = "Throws IndexOutOfBoundsException if the file does not exist";
    private static final String NO_GIFT = "Throws IndexOutOfBoundsException if the gift does not exist";
    private static final String OTHER_WHAT = "Throws IllegalArgumentException for any other what";
    private static final String NO_PROJECT = "Throws IllegalArgumentException if project is out of range";
    private static final String NO_ACCOUNT = "Throws IllegalArgumentException if project or kind is out of range";
    private static final int LEAST = Integer.MIN_VALUE;
    private static final int MOST = Integer.MAX_VALUE;

    /** usr 1, home 2 (project 1), ann 3, bob 4 (project 2); files 0 to 4. */
    private static final String HOMES = "grace 5; limit 1 100 150 3 5; limit 2 0 200 0 0;"
            + "folder usr root; folder home root; folder ann home; folder bob home;"
            + "tag home 1; tag bob 2; file root 10; file home 40; file ann 50; file bob 120;"
            + "file usr 5;";

    interface FolderCall {
        long run(QuotaTree tree, int number);
    }

    interface AccountCall {
        long run(QuotaTree tree, int project, int kind);
    }

    public static void main(String[] args) {
        constants();
        newObject();
        append();
        load();
        errorPosition();
        count();
        find();
        folder();
        walked();
        heaviest();
        addFolder();
        removeFolder();
        tagReason();
        tag();
        moveReason();
        moveFolder();
        file();
        writeReason();
        write();
        room();
        resize();
        delete();
        moveFile();
        greatest();
        used();
        counted();
        limit();
        setLimit();
        setLimitRefused();
        state();
        graceLeft();
        setGrace();
        tick();
        nextEvent();
        share();
        gift();
        giftOf();
        endGift();
        adjust();
        repair();
        writePath();
        writeAccounts();
        writtenByte();
        undo();
        e.close("EdgesOfPromisesTest");
    }

    private static long name(String letters) {
        return Checks.name(letters);
    }

    private static QuotaTree tree(String text) {
        return Checks.tree(text);
    }

    private static QuotaTree homes() {
        return tree(HOMES);
    }

    /** The numbers from 0 on are those of the tree; both neighbours and the farthest ones are not. */
    private static void indices(String sentence, String which, int there, FolderCall call) {
        e.edge(sentence, which, () -> {
            QuotaTree x = homes();
            c.index(() -> call.run(x, there));
            c.index(() -> call.run(x, -1));
            c.index(() -> call.run(x, LEAST));
            c.index(() -> call.run(x, MOST));
        });
        e.edge(sentence, which + " the first and the last do", () -> {
            c.due(false, Checks.answer(() -> call.run(homes(), 0)).contains("IndexOutOfBounds"));
            c.due(false, Checks.answer(() -> call.run(homes(), there - 1)).contains("IndexOutOfBounds"));
        });
    }

    private static void folders(FolderCall call) {
        indices(NO_FOLDER, "", 5, call);
    }

    /** From least to most there is an answer, beside them an exception. */
    private static void range(String sentence, int least, int most, FolderCall call) {
        e.edge(sentence, least + " to " + most, () -> {
            c.due(false, Checks.answer(() -> call.run(homes(), least)).startsWith("throws"));
            c.due(false, Checks.answer(() -> call.run(homes(), most)).startsWith("throws"));
        });
        e.edge(sentence, (least - 1) + ", " + (most + 1) + " and the farthest", () -> {
            QuotaTree x = homes();
            c.argument(() -> call.run(x, least - 1));
            c.argument(() -> call.run(x, most + 1));
            c.argument(() -> call.run(x, LEAST));
            c.argument(() -> call.run(x, MOST));
        });
    }

    private static void accounts(String sentence, AccountCall call) {
        range(sentence, 0, 7, (x, project) -> call.run(x, project, 0));
        range(sentence, 0, 1, (x, kind) -> call.run(x, 1, kind));
        range(sentence, 0, 7, (x, project) -> call.run(x, project, 1));
    }

    private static void constants() {
        e.part("Description");
        e.edge("NONE = -1: The value -1: there is none.", () -> c.due(-1, QuotaTree.NONE));
        e.edge("SYNTAX_ERROR = -2: Error code of load: the text does not follow the grammar.",
                () -> c.due(-2, QuotaTree.SYNTAX_ERROR));
        e.edge("VALUE_ERROR = -3: Error code of load: a number or name that cannot be.",
                () -> c.due(-3, QuotaTree.VALUE_ERROR));
        e.edge("TOO_MANY = -4: Error code of load: there is too much of something.",
                () -> c.due(-4, QuotaTree.TOO_MANY));
    }

    private static void newObject() {
        e.part("Promise 1");
        String alone = "Creates a tree with the root alone, untagged, without files, limits and gifts, at the time 0 with the grace 10,"
                + " and an empty text buffer.";
        e.edge(alone, "the root alone, untagged", () -> {
            QuotaTree x = new QuotaTree();
            c.due(1, x.count(0));
            c.due(NONE, x.folder(0, 0));
            c.due(NONE, x.folder(0, 1));
            c.due(0, x.folder(0, 3));
            c.due(0, x.count(6));
        });
        e.edge(alone, "no files and gifts", () -> {
            QuotaTree x = new QuotaTree();
            c.due(0, x.count(1));
            c.due(0, x.count(2));
            c.due(0, x.count(5));
            c.due(0, x.count(7));
        });
        e.edge(alone, "no limits", () -> {
            QuotaTree x = new QuotaTree();
            for (int account = 0; account < 16; account++) {
                c.due(NONE, x.limit(account / 2, account % 2, false));
                c.due(NONE, x.limit(account / 2, account % 2, true));
                c.due(0, x.used(account / 2, account % 2));
                c.due(NONE, x.graceLeft(account / 2, account % 2));
            }
        });
        e.edge(alone, "the time and the grace", () -> {
            QuotaTree x = new QuotaTree();
            c.due(0, x.count(3));
            c.due(10, x.count(4));
        });
        e.edge(alone, "the text buffer", () -> {
            c.argument(() -> new QuotaTree().load(1));
            c.due(0, new QuotaTree().load(0));
            c.due(20, new QuotaTree().append(0, 0, 0, 0, 0));
        });
        e.edge(alone, "no two objects share anything", () -> {
            QuotaTree one = new QuotaTree();
            QuotaTree other = new QuotaTree();
            one.addFolder(0, 1);
            one.append(0, 0, 0, 0, 0);
            one.writePath(0);
            c.due(1, other.count(0));
            c.argument(() -> other.load(1));
            c.index(() -> other.writtenByte(0));
            c.state(() -> other.undo());
        });
    }

    private static void append() {
        e.part("Promise 2");
        String order = "Appends 20 bytes to the text buffer: the four bytes of each argument in order, the most significant byte first.";
        e.edge(order, "each byte has its place", () -> {
            for (int at = 0; at < 20; at++) {
                int[] words = {0x20202020, 0x20202020, 0x20202020, 0x20202020, 0x20202020};
                words[at / 4] = (int) (0x20202020L & ~(0xffL << 24 - at % 4 * 8) | 0x78L << 24 - at % 4 * 8);
                QuotaTree x = new QuotaTree();
                x.append(words[0], words[1], words[2], words[3], words[4]);
                c.due(QuotaTree.SYNTAX_ERROR, x.load(20));
                c.due(at, x.errorPosition());
            }
        });
        e.edge(order, "bytes of 128 and more, and a sign bit in front", () -> {
            QuotaTree x = new QuotaTree();
            x.append(-1, 0x80808080, LEAST, MOST, -2);
            c.due(QuotaTree.SYNTAX_ERROR, x.load(20));
            c.due(0, x.errorPosition());
            x.append(0x20202080, 0, 0, 0, 0);
            c.due(QuotaTree.SYNTAX_ERROR, x.load(4));
            c.due(3, x.errorPosition());
        });
        e.edge("Returns the new length of the buffer.", () -> {
            QuotaTree x = new QuotaTree();
            for (int i = 1; i <= 45; i++) {
                c.due(20 * i, x.append(i, i, i, i, i));
            }
        });
        String full = "Throws IllegalStateException if the length would exceed 900";
        e.edge(full, "900, and more than that", () -> {
            QuotaTree x = tree("");
            for (int i = 1; i <= 44; i++) {
                x.append(0, 0, 0, 0, 0);
            }
            c.due(900, x.append(0, 0, 0, 0, 0));
            c.state(() -> x.append(0, 0, 0, 0, 0));
            c.state(() -> x.append(0x20202020, 0x20202020, 0x20202020, 0x20202020, 0x20202020));
        });
        e.edge(full, "empty again behind a load of less", () -> {
            QuotaTree x = new QuotaTree();
            for (int i = 1; i <= 45; i++) {
                x.append(0, 0, 0, 0, 0);
            }
            x.load(0);
            c.due(20, x.append(0, 0, 0, 0, 0));
        });
    }

    private static void load() {
        e.part("Promise 3");
        e.edge("Reads the first bytes of the text buffer as a tree.", () -> {
            QuotaTree x = new QuotaTree();
            Checks.put(x, "grace 5;grace 6;x");
            c.due(0, x.load(8));
            c.due(5, x.count(4));
        });
        String replaces = "If the text has no error, it replaces the present one (time 0, no gifts);";
        e.edge(replaces, "by the root alone", () -> {
            QuotaTree x = homes();
            x.gift(2, 1, 5, 9);
            x.tick(3);
            c.due(0, x.load(0));
            c.due(1, x.count(0));
            for (int what = 1; what < 8; what++) {
                c.due(what == 4 ? 10 : 0, x.count(what));
            }
            c.due(0, x.used(1, 0));
            c.due(NONE, x.limit(1, 0, true));
            c.due(NONE, x.folder(0, 1));
        });
        e.edge(replaces, "accounts that were wrong are counted", () -> {
            QuotaTree x = homes();
            x.adjust(1, 0, 7);
            Checks.load(x, HOMES);
            c.due(90, x.used(1, 0));
            c.due(0, x.repair());
        });
        e.edge(replaces, "the gifts' blocks are gone", () -> {
            QuotaTree x = homes();
            x.gift(2, 1, 5, 9);
            Checks.load(x, HOMES);
            c.due(150, x.limit(1, 0, true));
            c.due(200, x.limit(2, 0, true));
        });
        e.edge("in case of an error the present one stays.", () -> {
            for (String text : new String[] {"x", "folder a root;tag root 3;grace 100;", Edges.folders(40)}) {
                QuotaTree x = homes();
                x.gift(2, 1, 5, 9);
                x.tick(3);
                x.adjust(1, 0, 7);
                QuotaTree y = homes();
                y.gift(2, 1, 5, 9);
                y.tick(3);
                y.adjust(1, 0, 7);
                c.due(true, Checks.load(x, text) < 0);
                c.due(Observed.of(y), Observed.of(x));
            }
        });
        String empty = "The buffer is empty afterwards in both cases.";
        e.edge(empty, "no error", () -> {
            QuotaTree x = homes();
            c.argument(() -> x.load(1));
            c.due(20, x.append(0, 0, 0, 0, 0));
        });
        e.edge(empty, "an error", () -> {
            QuotaTree x = new QuotaTree();
            Checks.load(x, "grace 5;x");
            c.argument(() -> x.load(1));
            c.due(20, x.append(0, 0, 0, 0, 0));
        });
        e.edge(empty, "a length of 0", () -> {
            QuotaTree x = new QuotaTree();
            Checks.put(x, "grace 5;");
            x.load(0);
            c.argument(() -> x.load(8));
        });
        String files = "Returns the number of files, or the error code.";
        e.edge(files, "0, 1 and 60 files", () -> {
            c.due(0, Checks.load(new QuotaTree(), "folder a root;"));
            c.due(1, Checks.load(new QuotaTree(), Edges.files(1)));
            c.due(60, Checks.load(new QuotaTree(), Edges.files(60)));
        });
        e.edge(files, "each error code", () -> {
            c.due(-2, Checks.load(new QuotaTree(), ";"));
            c.due(-3, Checks.load(new QuotaTree(), "grace 0;"));
            c.due(-4, Checks.load(new QuotaTree(), Edges.files(61)));
        });
        String length = "Throws IllegalArgumentException if length is out of range";
        e.edge("- length: number of bytes, 0 to the length of the buffer", () -> {
            QuotaTree x = new QuotaTree();
            x.append(0x20202020, 0x20202020, 0x20202020, 0x20202020, 0x20202020);
            c.due(0, x.load(20));
            x.append(0, 0, 0, 0, 0);
            c.due(0, x.load(0));
            c.due(0, x.load(0));
        });
        e.edge(length, () -> {
            QuotaTree x = new QuotaTree();
            x.append(0x20202020, 0x20202020, 0x20202020, 0x20202020, 0x20202020);
            c.argument(() -> x.load(21));
            c.argument(() -> x.load(-1));
            c.argument(() -> x.load(LEAST));
            c.argument(() -> x.load(MOST));
            c.argument(() -> x.load(900));
            c.due(0, x.load(20));
            c.argument(() -> x.load(1));
        });
    }

    private static void errorPosition() {
        e.part("Promise 4");
        String none = "Returns the position; NONE if it found no error or if there was no call.";
        e.edge(none, "no call", () -> c.due(NONE, new QuotaTree().errorPosition()));
        e.edge(none, "no error", () -> c.due(NONE, homes().errorPosition()));
        e.edge(none, "an error at 0 and one at 900", () -> {
            QuotaTree x = new QuotaTree();
            Checks.load(x, "x");
            c.due(0, x.errorPosition());
            Checks.load(x, " ".repeat(893) + "grace 7");
            c.due(900, x.errorPosition());
        });
        String latest = "Returns the position of the error that the latest call of load found.";
        e.edge(latest, "an error, no error, an error", () -> {
            QuotaTree x = new QuotaTree();
            Checks.load(x, "   x");
            c.due(3, x.errorPosition());
            x.load(0);
            c.due(NONE, x.errorPosition());
            Checks.load(x, " x");
            c.due(1, x.errorPosition());
        });
        e.edge(latest, "a call that throws is none", () -> {
            QuotaTree x = new QuotaTree();
            Checks.load(x, "   x");
            c.argument(() -> x.load(1));
            c.due(3, x.errorPosition());
        });
    }

    private static void count() {
        e.part("Promise 5");
        e.edge("- what: 0: folders; 1: files; 2: blocks of all files; 3: the time; 4: the grace; 5: gifts;"
                + " 6: tagged folders; 7: files without a project", () -> {
            QuotaTree x = homes();
            x.tick(3);
            x.gift(2, 1, 5, 9);
            int[] due = {5, 5, 225, 3, 5, 1, 2, 2};
            for (int what = 0; what < 8; what++) {
                c.due(due[what], x.count(what));
            }
        });
        e.edge("- what: 0: folders; 1: files; 2: blocks of all files; 3: the time; 4: the grace; 5: gifts;"
                + " 6: tagged folders; 7: files without a project", "the most of each", () -> {
            QuotaTree x = Edges.chain();
            for (int i = 0; i < 40; i++) {
                x.tag(i, i % 8);
            }
            c.due(40, x.count(0));
            c.due(40, x.count(6));
            QuotaTree y = tree(Edges.files(60));
            c.due(60, y.count(1));
            c.due(60, y.count(7));
            y.tag(0, 0);
            c.due(0, y.count(7));
        });
        range(OTHER_WHAT, 0, 7, (x, what) -> x.count(what));
    }

    private static void find() {
        e.part("Promise 6");
        String name = "- name: the letters as numbers 1 to 26, in groups of 5 bits, the last letter in the lowest group";
        e.edge(name, "a, z, az, za, 8 letters", () -> {
            QuotaTree x = tree("folder a root;folder z root;folder az root;folder za root;folder aaaaaaaa root;folder zzzzzzzz root;");
            long[] names = {1, 26, 1 << 5 | 26, 26 << 5 | 1, 0x842108421L, 0xd6b5ad6b5aL};
            for (int i = 0; i < 6; i++) {
                c.due(i + 1, x.find(names[i]));
            }
        });
        String none = "Returns its number; NONE if there is none.";
        e.edge(none, "no folder has it", () -> {
            QuotaTree x = homes();
            c.due(NONE, x.find(name("rot")));
            c.due(NONE, x.find(name("roo")));
            c.due(NONE, x.find(name("oot")));
            c.due(NONE, x.find(name("roota")));
            c.due(NONE, x.find(name("aroot")));
        });
        e.edge(none, "numbers that are no name", () -> {
            QuotaTree x = homes();
            long[] numbers = {0, -1, 27, 31, 32, Long.MIN_VALUE, Long.MAX_VALUE, name("root") << 5, name("root") << 32,
                name("root") | 1L << 40, name("root") | 1L << 45, name("root") | 1L << 63, name("root") | 31L << 35, -name("root")};
            for (long number : numbers) {
                c.due(NONE, x.find(number));
            }
        });
        e.edge(none, "the root is found under 0", () -> c.due(0, new QuotaTree().find(605684)));
        e.edge(none, "a removed one, and those behind it", () -> {
            QuotaTree x = homes();
            x.delete(4);
            x.removeFolder(1);
            c.due(NONE, x.find(name("usr")));
            c.due(1, x.find(name("home")));
            c.due(3, x.find(name("bob")));
        });
    }

    private static void folder() {
        e.part("Promise 7");
        String what = "- what: 0: its parent (NONE for the root); 1: the project with which it is tagged, or NONE; 2: its project;"
                + " 3: its children; 4: the files directly in it; 5: how many parents there are from it to the root;"
                + " 6: the folders in its subtree; 7: the files in its subtree; 8: the blocks of these; 9: the files of its open part";
        int[][] due = {
            {-1, -1, -1, 2, 1, 0, 5, 5, 225, 2}, {0, -1, -1, 0, 1, 1, 1, 1, 5, 1}, {0, 1, 1, 2, 1, 1, 3, 3, 210, 2},
            {2, -1, 1, 0, 1, 2, 1, 1, 50, 1}, {2, 2, 2, 0, 1, 2, 1, 1, 120, 1}};
        for (int number = 0; number < 10; number++) {
            int each = number;
            e.edge(what, "what " + each, () -> {
                for (int folder = 0; folder < 5; folder++) {
                    c.due(due[folder][each], homes().folder(folder, each));
                }
            });
        }
        e.edge(what, "a tag with project 0, no files", () -> {
            QuotaTree x = tree("folder a root;tag a 0;");
            int[] numbers = {0, 0, 0, 0, 0, 1, 1, 0, 0, 0};
            for (int i = 0; i < 10; i++) {
                c.due(numbers[i], x.folder(1, i));
            }
        });
        folders((x, folder) -> x.folder(folder, 0));
        range(OTHER_WHAT, 0, 9, (x, number) -> x.folder(4, number));
    }

    private static void walked() {
        e.part("Promise 8");
        String order = "Returns a folder in the order of a walk through the tree: the root first; behind each folder its children,"
                + " by their numbers, each with its whole subtree.";
        e.edge(order, "children told in turns", () -> walk(tree("folder a root;folder b root;folder d a;folder f b;folder g a;folder h d;"),
                0, 1, 3, 6, 5, 2, 4));
        e.edge(order, "a parent with a greater number than its child", () -> {
            QuotaTree x = tree("folder a root;folder b root;folder d root;");
            x.moveFolder(1, 3);
            x.moveFolder(2, 1);
            walk(x, 0, 3, 1, 2);
        });
        e.edge(order, "the root alone", () -> walk(new QuotaTree(), 0));
        e.edge(order, "a path of 40, and 39 children", () -> {
            QuotaTree x = Edges.chain();
            QuotaTree y = tree(Edges.folders(39));
            for (int i = 0; i < 40; i++) {
                c.due(i, x.walked(i));
                c.due(i, y.walked(i));
            }
        });
        String few = "Throws IndexOutOfBoundsException if there are not so many";
        indices(few, "", 5, (x, index) -> x.walked(index));
        e.edge(few, "40", () -> {
            QuotaTree x = Edges.chain();
            c.due(39, x.walked(39));
            c.index(() -> x.walked(40));
        });
        e.edge("- index: 0 for the root", () -> c.due(0, homes().walked(0)));
    }

    private static void walk(QuotaTree x, int... order) {
        for (int i = 0; i < order.length; i++) {
            c.due(order[i], x.walked(i));
        }
        c.index(() -> x.walked(order.length));
    }

    private static void heaviest() {
        e.part("Promise 9");
        String lowest = "Returns the child, of several the lowest one.";
        e.edge(lowest, "the same blocks", () -> {
            QuotaTree x = tree("folder a root;folder b root;folder d root;file b 5;file d 5;file a 4;");
            c.due(2, x.heaviest(0));
            x.resize(2, 5);
            c.due(1, x.heaviest(0));
            x.resize(1, 6);
            c.due(3, x.heaviest(0));
        });
        e.edge(lowest, "no blocks at all", () -> {
            c.due(1, tree("folder a root;folder b root;").heaviest(0));
            c.due(1, tree("folder a root;folder b root;file b 0;").heaviest(0));
        });
        e.edge("Finds the child of a folder whose subtree has the most blocks.", () -> {
            QuotaTree x = tree("folder a root;folder b root;folder d b;folder f d;file root 99;file a 7;file d 4;file f 4;tag d 1;");
            c.due(2, x.heaviest(0));
            c.due(3, x.heaviest(2));
            x.moveFolder(4, 1);
            c.due(1, x.heaviest(0));
        });
        folders((x, folder) -> x.heaviest(folder));
        String none = "Throws NoSuchElementException if it has no children";
        e.edge(none, "the root alone", () -> c.element(() -> new QuotaTree().heaviest(0)));
        e.edge(none, "a folder with files, beside others", () -> {
            c.element(() -> homes().heaviest(1));
            c.element(() -> homes().heaviest(4));
        });
        e.edge(none, "when its only child is moved away", () -> {
            QuotaTree x = tree("folder a root;folder b a;");
            c.due(2, x.heaviest(1));
            x.moveFolder(2, 0);
            c.element(() -> x.heaviest(1));
        });
    }

    private static void addFolder() {
        e.part("Promise 10");
        e.edge("Adds an untagged folder, as the last one.", () -> {
            QuotaTree x = homes();
            c.due(5, x.addFolder(4, name("x")));
            c.due(4, x.folder(5, 0));
            c.due(NONE, x.folder(5, 1));
            c.due(2, x.folder(5, 2));
            x.tag(5, 3);
            x.removeFolder(5);
            c.due(5, x.addFolder(0, name("y")));
            c.due(NONE, x.folder(5, 1));
            c.due(NONE, x.folder(5, 2));
        });
        e.edge("- name: as for find; 1 to 8 letters", () -> {
            QuotaTree x = new QuotaTree();
            c.due(1, x.addFolder(0, 1));
            c.due(2, x.addFolder(0, 26));
            c.due(3, x.addFolder(0, 0x842108421L));
            c.due(4, x.addFolder(0, 0xd6b5ad6b5aL));
            c.due(3, x.find(name("aaaaaaaa")));
            c.due(4, x.find(name("zzzzzzzz")));
        });
        indices("Throws IndexOutOfBoundsException if the parent does not exist", "", 5, (x, parent) -> x.addFolder(parent, name("new")));
        String names = "Throws IllegalArgumentException if name is not made of 1 to 8 letters, or a folder has it";
        e.edge(names, "no letter", () -> c.argument(() -> homes().addFolder(0, 0)));
        e.edge(names, "9 letters and more", () -> {
            QuotaTree x = homes();
            c.argument(() -> x.addFolder(0, name("aaaaaaaaa")));
            c.argument(() -> x.addFolder(0, name("zzzzzzzzz")));
            c.argument(() -> x.addFolder(0, name("abcdefghijkl")));
            c.argument(() -> x.addFolder(0, name("abcdefghijklm")));
            c.argument(() -> x.addFolder(0, name("a") << 40 | name("bbbbbbbb")));
        });
        e.edge(names, "groups that are no letter, at each place", () -> {
            QuotaTree x = homes();
            for (int shift = 0; shift < 40; shift += 5) {
                long others = name("aaaaaaaa") & ~(31L << shift);
                for (long group : new long[] {27, 28, 29, 30, 31}) {
                    long number = others | group << shift;
                    c.argument(() -> x.addFolder(0, number));
                }
                if (shift < 35) {
                    c.argument(() -> x.addFolder(0, others));
                }
            }
        });
        e.edge(names, "bits above the eighth letter, negative numbers", () -> {
            QuotaTree x = homes();
            for (int bit = 40; bit < 64; bit++) {
                long number = 1L << bit;
                c.argument(() -> x.addFolder(0, number));
                c.argument(() -> x.addFolder(0, number | 1));
                c.argument(() -> x.addFolder(0, number | name("aaaaaaaa")));
            }
            c.argument(() -> x.addFolder(0, -1));
            c.argument(() -> x.addFolder(0, Long.MIN_VALUE));
            c.argument(() -> x.addFolder(0, Long.MAX_VALUE));
            c.argument(() -> x.addFolder(0, -name("x")));
        });
        e.edge(names, "a folder has it: the root, the first, the last", () -> {
            QuotaTree x = homes();
            c.argument(() -> x.addFolder(0, name("root")));
            c.argument(() -> x.addFolder(0, name("usr")));
            c.argument(() -> x.addFolder(0, name("bob")));
            c.due(5, x.addFolder(0, name("us")));
            c.due(6, x.addFolder(0, name("bobo")));
        });
        String full = "Throws IllegalStateException if there are 40 folders";
        e.edge(full, () -> {
            QuotaTree x = tree(Edges.folders(38));
            c.due(39, x.addFolder(0, name("zy")));
            c.state(() -> x.addFolder(0, name("zz")));
            c.state(() -> x.addFolder(39, name("zz")));
            x.removeFolder(1);
            c.due(39, x.addFolder(38, name("zz")));
        });
    }

    private static void removeFolder() {
        e.part("Promise 11");
        String behind = "Removes a folder; those behind it get numbers that are lower by 1.";
        e.edge(behind, "parents, files and tags go with them", () -> {
            QuotaTree x = tree("folder a root;folder b root;folder d b;folder f d;folder g a;tag b 1;tag f 2;file d 7;file g 8;");
            x.moveFolder(5, 0);
            c.due(5, x.removeFolder(1));
            int[] parents = {NONE, 0, 1, 2, 0};
            int[] tags = {NONE, 1, NONE, 2, NONE};
            for (int i = 0; i < 5; i++) {
                c.due(parents[i], x.folder(i, 0));
                c.due(tags[i], x.folder(i, 1));
            }
            c.due(2, x.file(0, 0));
            c.due(4, x.file(1, 0));
            c.due(4, x.find(name("g")));
        });
        e.edge(behind, "a parent behind its child", () -> {
            QuotaTree x = tree("folder a root;folder b root;folder d root;file a 1;");
            x.moveFolder(1, 3);
            c.due(3, x.removeFolder(2));
            c.due(2, x.folder(1, 0));
            c.due(1, x.file(0, 0));
        });
        e.edge(behind, "the last one", () -> {
            QuotaTree x = tree("folder a root;folder b root;");
            c.due(2, x.removeFolder(2));
            c.due(1, x.find(name("a")));
            c.due(NONE, x.find(name("b")));
        });
        e.edge("Returns the number of folders afterwards.", () -> {
            QuotaTree x = Edges.chain();
            for (int i = 39; i > 0; i--) {
                c.due(i, x.removeFolder(i));
            }
            c.due(1, x.count(0));
        });
        folders((x, folder) -> x.removeFolder(folder));
        String not = "Throws IllegalStateException if it is the root, or has children or files";
        e.edge(not, "the root, alone and not", () -> {
            c.state(() -> new QuotaTree().removeFolder(0));
            c.state(() -> homes().removeFolder(0));
        });
        e.edge(not, "one child and no file", () -> {
            QuotaTree x = tree("folder a root;folder b a;");
            c.state(() -> x.removeFolder(1));
            x.removeFolder(2);
            c.due(1, x.removeFolder(1));
        });
        e.edge(not, "one file, of no blocks, and no child", () -> {
            QuotaTree x = tree("folder a root;file a 0;");
            c.state(() -> x.removeFolder(1));
            x.delete(0);
            c.due(1, x.removeFolder(1));
        });
        e.edge(not, "a tag does not matter", () -> {
            QuotaTree x = tree("folder a root;tag a 1;");
            c.due(1, x.removeFolder(1));
            c.due(0, x.count(6));
        });
    }

    private static void tagReason() {
        e.part("Promise 12");
        String reason = "Returns the reason of section 3, 1 to 4; 0 if it can.";
        String text = "folder a root;folder b root;tag b 2;file a 2;file b 5;file b 0;";
        e.edge(reason, "0", () -> c.due(0, tree("limit 2 0 7 0 3;" + text).tagReason(1, 2)));
        e.edge(reason, "1", () -> c.due(1, tree("limit 2 0 6 0 3;" + text).tagReason(1, 2)));
        e.edge(reason, "2", () -> c.due(2, tree("limit 2 0 7 0 2;" + text).tagReason(1, 2)));
        e.edge(reason, "3", () -> {
            QuotaTree x = tree("limit 2 4 7 1 3;" + text);
            x.tick(9);
            c.due(0, x.tagReason(1, 2));
            x.tick(1);
            c.due(3, x.tagReason(1, 2));
        });
        e.edge(reason, "4", () -> {
            QuotaTree x = tree("limit 2 5 7 1 3;" + text);
            x.tick(10);
            c.due(4, x.tagReason(1, 2));
        });
        e.edge("- project: 0 to 7, or NONE for no tag", () -> {
            QuotaTree x = homes();
            c.due(0, x.tagReason(0, NONE));
            c.due(0, x.tagReason(4, 0));
            c.due(0, x.tagReason(4, 7));
            c.due(1, x.tagReason(4, NONE));
        });
        folders((x, folder) -> x.tagReason(folder, 0));
        range(NO_PROJECT, -1, 7, (x, project) -> x.tagReason(0, project));
    }

    private static void tag() {
        e.part("Promise 13");
        String number = "Returns the number of files whose project is another one afterwards.";
        e.edge(number, "0: no files, the same project", () -> {
            c.due(0, tree("folder a root;").tag(1, 3));
            c.due(0, homes().tag(2, 1));
            c.due(0, homes().tag(3, 1));
        });
        e.edge(number, "those of the open part", () -> {
            c.due(2, homes().tag(0, 3));
            c.due(2, homes().tag(2, 3));
            c.due(1, homes().tag(3, 3));
            c.due(2, homes().tag(2, NONE));
        });
        e.edge(number, "60", () -> c.due(60, tree(Edges.files(60)).tag(0, 0)));
        e.edge("- project: 0 to 7, or NONE for no tag", () -> {
            QuotaTree x = homes();
            x.tag(1, 0);
            c.due(0, x.folder(1, 1));
            x.tag(1, 7);
            c.due(7, x.folder(1, 1));
            x.tag(1, NONE);
            c.due(NONE, x.folder(1, 1));
            c.due(2, x.count(6));
        });
        folders((x, folder) -> x.tag(folder, 0));
        range(NO_PROJECT, -1, 7, (x, project) -> x.tag(0, project));
        String refused = "Throws IllegalStateException if it is refused";
        e.edge(refused, "for each of the four reasons", () -> {
            String text = "folder a root;folder b root;tag b 2;file a 2;file b 5;file b 0;";
            c.state(() -> tree("limit 2 0 6 0 0;" + text).tag(1, 2));
            c.state(() -> tree("limit 2 0 0 0 2;" + text).tag(1, 2));
            QuotaTree x = tree("limit 2 4 0 0 0;" + text);
            QuotaTree y = tree("limit 2 0 0 1 0;" + text);
            x.tick(10);
            y.tick(10);
            c.state(() -> x.tag(1, 2));
            c.state(() -> y.tag(1, 2));
            c.due(NONE, x.folder(1, 1));
            c.due(1, x.undo());
        });
    }

    private static void moveReason() {
        e.part("Promise 14");
        String five = "Returns 5 if it is the root, or the parent lies in its subtree; otherwise the reason of section 3, 1 to 4; 0 if it can.";
        e.edge(five, "5: the root", () -> {
            for (int parent = 0; parent < 5; parent++) {
                c.due(5, homes().moveReason(0, parent));
            }
        });
        e.edge(five, "5: itself, its child", () -> {
            c.due(5, homes().moveReason(2, 2));
            c.due(5, homes().moveReason(2, 3));
            c.due(5, homes().moveReason(1, 1));
        });
        e.edge(five, "5 in front of another reason", () -> {
            QuotaTree x = tree("limit 1 1 1 1 1;folder a root;folder b a;tag b 1;file b 5;file b 5;file a 5;");
            x.tick(10);
            c.due(5, x.moveReason(1, 2));
        });
        e.edge(five, "1 to 4 and 0", () -> {
            String text = "folder a root;folder b root;tag b 2;file a 2;file b 5;file b 0;";
            c.due(0, tree("limit 2 0 7 0 3;" + text).moveReason(1, 2));
            c.due(1, tree("limit 2 0 6 0 3;" + text).moveReason(1, 2));
            c.due(2, tree("limit 2 0 7 0 2;" + text).moveReason(1, 2));
            QuotaTree x = tree("limit 2 4 7 1 3;" + text);
            x.tick(10);
            c.due(3, x.moveReason(1, 2));
            QuotaTree y = tree("limit 2 5 7 1 3;" + text);
            y.tick(10);
            c.due(4, y.moveReason(1, 2));
        });
        e.edge(five, "0: the parent that it has, its sister", () -> {
            c.due(0, homes().moveReason(3, 2));
            c.due(0, homes().moveReason(1, 2));
            c.due(0, homes().moveReason(2, 0));
        });
        String both = "Throws IndexOutOfBoundsException if one of both folders does not exist";
        indices(both, "the folder", 5, (x, folder) -> x.moveReason(folder, 0));
        indices(both, "the parent", 5, (x, parent) -> x.moveReason(1, parent));
        indices(both, "the parent of the root", 5, (x, parent) -> x.moveReason(0, parent));
    }

    private static void moveFolder() {
        e.part("Promise 15");
        String whole = "Moves a folder with its whole subtree to another parent (or to the one that it has).";
        e.edge(whole, "its whole subtree", () -> {
            QuotaTree x = homes();
            x.moveFolder(2, 1);
            c.due(1, x.folder(2, 0));
            c.due(2, x.folder(3, 0));
            c.due(3, x.folder(3, 5));
            c.due(4, x.folder(1, 6));
            c.due(215, x.folder(1, 8));
        });
        e.edge(whole, "the one that it has", () -> {
            QuotaTree x = homes();
            c.due(0, x.moveFolder(3, 2));
            c.due(2, x.folder(3, 0));
            c.due(90, x.used(1, 0));
        });
        String number = "Returns the number of files whose project is another one afterwards.";
        e.edge(number, "0: tagged, the same project, no files", () -> {
            c.due(0, homes().moveFolder(4, 1));
            c.due(0, homes().moveFolder(1, 0));
            c.due(0, tree("folder a root;folder b root;tag b 1;").moveFolder(1, 2));
        });
        e.edge(number, "those of the open part", () -> {
            c.due(1, homes().moveFolder(3, 1));
            c.due(1, homes().moveFolder(1, 2));
            c.due(2, tree("folder a root;folder b a;folder d b;folder f root;tag d 1;tag f 2;file a 1;file b 1;file d 1;").moveFolder(1, 4));
        });
        String both = "Throws IndexOutOfBoundsException if one of both folders does not exist";
        indices(both, "the folder", 5, (x, folder) -> x.moveFolder(folder, 0));
        indices(both, "the parent", 5, (x, parent) -> x.moveFolder(1, parent));
        String cannot = "Throws IllegalStateException if it cannot be moved (see moveReason)";
        e.edge(cannot, "the root, its own subtree", () -> {
            c.state(() -> homes().moveFolder(0, 0));
            c.state(() -> homes().moveFolder(0, 4));
            c.state(() -> homes().moveFolder(2, 2));
            c.state(() -> homes().moveFolder(2, 4));
        });
        e.edge(cannot, "each of the four reasons", () -> {
            String text = "folder a root;folder b root;tag b 2;file a 2;file b 5;file b 0;";
            c.state(() -> tree("limit 2 0 6 0 0;" + text).moveFolder(1, 2));
            c.state(() -> tree("limit 2 0 0 0 2;" + text).moveFolder(1, 2));
            QuotaTree x = tree("limit 2 4 0 0 0;" + text);
            QuotaTree y = tree("limit 2 0 0 1 0;" + text);
            x.tick(10);
            y.tick(10);
            c.state(() -> x.moveFolder(1, 2));
            c.state(() -> y.moveFolder(1, 2));
            c.due(0, x.folder(1, 0));
        });
    }

    private static void file() {
        e.part("Promise 16");
        String what = "- what: 0: its folder; 1: its size; 2: its project, or NONE";
        e.edge(what, "the first and the last", () -> {
            int[] first = {0, 10, NONE};
            int[] fourth = {4, 120, 2};
            int[] last = {1, 5, NONE};
            for (int i = 0; i < 3; i++) {
                c.due(first[i], homes().file(0, i));
                c.due(fourth[i], homes().file(3, i));
                c.due(last[i], homes().file(4, i));
            }
        });
        e.edge(what, "project 0, from a folder above", () -> c.due(0, tree("folder a root;tag root 0;file a 1;").file(0, 2)));
        indices(NO_FILE, "", 5, (x, file) -> x.file(file, 0));
        range(OTHER_WHAT, 0, 2, (x, number) -> x.file(0, number));
    }

    private static void writeReason() {
        e.part("Promise 17");
        String reason = "Returns the reason of section 3, 1 to 4; 0 if it can (whether there are 60 files does not matter).";
        e.edge(reason, "0 to 4", () -> {
            String text = "tag root 2;file root 5;file root 0;";
            c.due(0, tree("limit 2 0 7 0 3;" + text).writeReason(0, 2));
            c.due(1, tree("limit 2 0 7 0 3;" + text).writeReason(0, 3));
            c.due(2, tree("limit 2 0 7 0 2;" + text).writeReason(0, 2));
            QuotaTree x = tree("limit 2 4 7 1 3;" + text);
            x.tick(10);
            c.due(3, x.writeReason(0, 2));
            c.due(4, x.writeReason(0, 0));
        });
        e.edge(reason, "60 files", () -> {
            QuotaTree x = tree(Edges.files(60));
            c.due(0, x.writeReason(0, 9999));
            x.tag(0, 1);
            c.due(0, x.writeReason(0, 9999));
            x.setLimit(1, 1, 0, 60);
            c.due(2, x.writeReason(0, 0));
        });
        e.edge("- blocks: 0 to 9999", () -> {
            QuotaTree x = tree("limit 1 0 9999 0 0;tag root 1;");
            c.due(0, x.writeReason(0, 0));
            c.due(0, x.writeReason(0, 9999));
            x.setLimit(1, 0, 0, 9998);
            c.due(1, x.writeReason(0, 9999));
        });
        folders((x, folder) -> x.writeReason(folder, 0));
        range("Throws IllegalArgumentException if blocks is out of range", 0, 9999, (x, blocks) -> x.writeReason(0, blocks));
    }

    private static void write() {
        e.part("Promise 18");
        e.edge("Writes a new file into a folder: a growth of its project by its blocks and one file.", () -> {
            QuotaTree x = homes();
            x.write(3, 60);
            c.due(150, x.used(1, 0));
            c.due(3, x.used(1, 1));
            c.due(3, x.file(5, 0));
            c.due(60, x.file(5, 1));
            x.write(3, 0);
            c.due(150, x.used(1, 0));
            c.due(4, x.used(1, 1));
        });
        e.edge("Returns the number of the file.", () -> {
            QuotaTree x = new QuotaTree();
            for (int i = 0; i < 60; i++) {
                c.due(i, x.write(0, i));
            }
            x.delete(7);
            c.due(59, x.write(0, 1));
        });
        folders((x, folder) -> x.write(folder, 0));
        range("Throws IllegalArgumentException if blocks is out of range", 0, 9999, (x, blocks) -> x.write(0, blocks));
        String refused = "Throws IllegalStateException if there are 60 files, or it is refused";
        e.edge(refused, "60 files", () -> {
            QuotaTree x = tree(Edges.files(59));
            x.write(0, 0);
            c.state(() -> x.write(0, 0));
            c.due(60, x.count(1));
            x.delete(59);
            c.due(59, x.write(0, 0));
        });
        e.edge(refused, "for each of the four reasons", () -> {
            c.state(() -> homes().write(3, 61));
            c.due(5, homes().write(3, 60));
            c.state(() -> tree("limit 1 0 0 0 1;tag root 1;file root 1;").write(0, 0));
            QuotaTree x = tree("limit 1 1 0 0 0;tag root 1;file root 2;");
            QuotaTree y = tree("limit 1 0 0 1 0;tag root 1;file root 2;file root 2;");
            x.tick(10);
            y.tick(10);
            c.state(() -> x.write(0, 1));
            c.state(() -> y.write(0, 0));
            c.due(1, x.count(1));
            c.due(2, x.used(1, 0));
        });
    }

    private static void room() {
        e.part("Promise 19");
        String greatest = "Returns the greatest number, 0 to 9999, for which writeReason is 0; NONE if there is none.";
        e.edge(greatest, "0, 1, 9998, 9999 and more", () -> {
            int[] limits = {5, 6, 10003, 10004, 10005, 99999};
            int[] due = {0, 1, 9998, 9999, 9999, 9999};
            for (int i = 0; i < 6; i++) {
                QuotaTree x = tree("limit 1 0 " + limits[i] + " 0 0;tag root 1;file root 5;");
                c.due(due[i], x.room(0));
                c.due(0, x.writeReason(0, due[i]));
                c.due(due[i] < 9999 ? 1 : 0, x.writeReason(0, Math.min(9999, due[i] + 1)));
            }
        });
        e.edge(greatest, "above the hard limit", () -> c.due(0, tree("limit 1 0 4 0 0;tag root 1;file root 5;").room(0)));
        e.edge(greatest, "no hard limit of blocks", () -> c.due(9999, tree("limit 1 5 0 0 2;tag root 1;file root 5;").room(0)));
        e.edge(greatest, "no project", () -> c.due(9999, new QuotaTree().room(0)));
        e.edge(greatest, "60 files do not matter", () -> c.due(9999, tree(Edges.files(60)).room(0)));
        e.edge(greatest, "the hard limit of files", () -> {
            c.due(9999, tree("limit 1 0 0 0 2;tag root 1;file root 5;").room(0));
            c.due(NONE, tree("limit 1 0 0 0 1;tag root 1;file root 5;").room(0));
            c.due(NONE, tree("limit 1 0 4 0 1;tag root 1;file root 5;").room(0));
        });
        e.edge(greatest, "the grace of blocks is over", () -> {
            QuotaTree x = tree("limit 1 4 50 0 0;tag root 1;file root 5;");
            x.tick(9);
            c.due(45, x.room(0));
            x.tick(1);
            c.due(0, x.room(0));
        });
        e.edge(greatest, "the grace of files is over", () -> {
            QuotaTree x = tree("limit 1 0 50 1 0;tag root 1;file root 5;file root 5;");
            x.tick(9);
            c.due(40, x.room(0));
            x.tick(1);
            c.due(NONE, x.room(0));
        });
        e.edge(greatest, "the effective limit", () -> {
            QuotaTree x = tree("limit 1 0 50 0 0;limit 2 0 50 0 0;tag root 1;file root 5;");
            x.gift(1, 2, 45, 5);
            c.due(0, x.room(0));
            x.gift(2, 1, 3, 5);
            c.due(3, x.room(0));
        });
        folders((x, folder) -> x.room(folder));
    }

    private static void resize() {
        e.part("Promise 20");
        String size = "Gives a file another size: if it is greater, a growth of its project by the difference (and no file), otherwise a loss.";
        e.edge(size, "greater by 1, the same, less by 1", () -> {
            QuotaTree x = homes();
            x.resize(1, 41);
            c.due(91, x.used(1, 0));
            x.resize(1, 41);
            c.due(91, x.used(1, 0));
            x.resize(1, 40);
            c.due(90, x.used(1, 0));
            c.due(2, x.used(1, 1));
        });
        e.edge(size, "the same or less is never refused", () -> {
            QuotaTree x = tree("limit 1 1 1 1 1;tag root 1;file root 5;file root 5;");
            x.tick(10);
            c.due(5, x.resize(0, 5));
            c.due(5, x.resize(0, 4));
            c.due(4, x.resize(0, 0));
        });
        e.edge(size, "the limit and the clock of files refuse no size", () -> {
            QuotaTree x = tree("limit 1 0 0 1 1;tag root 1;file root 5;file root 5;");
            x.tick(10);
            c.due(5, x.resize(0, 9999));
        });
        e.edge("Returns its previous size.", () -> {
            QuotaTree x = new QuotaTree();
            x.write(0, 0);
            c.due(0, x.resize(0, 9999));
            c.due(9999, x.resize(0, 0));
            c.due(0, x.resize(0, 0));
        });
        indices(NO_FILE, "", 5, (x, file) -> x.resize(file, 1));
        range("Throws IllegalArgumentException if blocks is out of range", 0, 9999, (x, blocks) -> x.resize(0, blocks));
        String refused = "Throws IllegalStateException if it is refused";
        e.edge(refused, "to the hard limit, and above it", () -> {
            QuotaTree x = homes();
            c.due(50, x.resize(2, 110));
            c.state(() -> x.resize(2, 111));
            c.due(110, x.file(2, 1));
        });
        e.edge(refused, "the grace is over", () -> {
            QuotaTree x = tree("limit 1 4 0 0 0;tag root 1;file root 5;");
            x.tick(9);
            c.due(5, x.resize(0, 6));
            x.tick(1);
            c.state(() -> x.resize(0, 7));
            c.due(6, x.used(1, 0));
        });
    }

    private static void delete() {
        e.part("Promise 21");
        String behind = "Deletes a file; those behind it get numbers that are lower by 1.";
        e.edge(behind, "the first, one in between, the last", () -> {
            int[] places = {0, 2, 3, 4, 1};
            int[] sizes = {10, 40, 50, 120, 5};
            for (int gone = 0; gone < 5; gone++) {
                QuotaTree x = homes();
                c.due(4, x.delete(gone));
                for (int file = 0; file < 4; file++) {
                    int before = file < gone ? file : file + 1;
                    c.due(places[before], x.file(file, 0));
                    c.due(sizes[before], x.file(file, 1));
                }
                c.index(() -> x.file(4, 0));
            }
        });
        e.edge("Returns the number of files afterwards.", () -> {
            QuotaTree x = tree(Edges.files(60));
            for (int i = 59; i >= 0; i--) {
                c.due(i, x.delete(i / 2));
            }
            c.due(0, x.count(1));
        });
        indices(NO_FILE, "", 5, (x, file) -> x.delete(file));
        e.edge(NO_FILE, "no file at all", () -> c.index(() -> new QuotaTree().delete(0)));
    }

    private static void moveFile() {
        e.part("Promise 22");
        String one = "Returns 1 if its project is another one afterwards, otherwise 0.";
        e.edge(one, "1: to another project, to none, from none", () -> {
            c.due(1, homes().moveFile(1, 4));
            c.due(1, homes().moveFile(1, 0));
            c.due(1, homes().moveFile(0, 2));
        });
        e.edge(one, "0: the same project, none and none", () -> {
            c.due(0, homes().moveFile(1, 3));
            c.due(0, homes().moveFile(0, 1));
        });
        String same = "Moves a file to a folder (or to the one in which it lies).";
        e.edge(same, "the one in which it lies", () -> {
            QuotaTree x = tree("limit 1 1 1 1 1;tag root 1;file root 5;file root 5;");
            x.tick(10);
            c.due(0, x.moveFile(0, 0));
            c.due(0, x.file(0, 0));
            c.due(10, x.used(1, 0));
        });
        e.edge(same, "its number and size stay", () -> {
            QuotaTree x = homes();
            x.moveFile(1, 0);
            c.due(0, x.file(1, 0));
            c.due(40, x.file(1, 1));
            c.due(50, x.file(2, 1));
        });
        String neither = "Throws IndexOutOfBoundsException if the file or the folder does not exist";
        indices(neither, "the file", 5, (x, file) -> x.moveFile(file, 0));
        indices(neither, "the folder", 5, (x, folder) -> x.moveFile(0, folder));
        String refused = "Throws IllegalStateException if it is refused";
        e.edge(refused, "for each of the four reasons", () -> {
            String text = "folder a root;tag root 1;tag a 2;file a 2;file root 5;file root 0;";
            c.state(() -> tree("limit 1 0 6 0 0;" + text).moveFile(0, 0));
            c.due(1, tree("limit 1 0 7 0 3;" + text).moveFile(0, 0));
            c.state(() -> tree("limit 1 0 0 0 2;" + text).moveFile(0, 0));
            QuotaTree x = tree("limit 1 4 0 0 0;" + text);
            QuotaTree y = tree("limit 1 0 0 1 0;" + text);
            x.tick(10);
            y.tick(10);
            c.state(() -> x.moveFile(0, 0));
            c.state(() -> y.moveFile(0, 0));
            c.due(1, x.file(0, 0));
            c.due(2, x.used(2, 0));
        });
    }

    private static void greatest() {
        e.part("Promise 23");
        String lowest = "Returns the number of the file, of several the lowest one.";
        e.edge(lowest, "the same size", () -> {
            QuotaTree x = tree("tag root 1;file root 4;file root 5;file root 5;");
            c.due(1, x.greatest(1));
            x.resize(2, 6);
            c.due(2, x.greatest(1));
            x.resize(0, 6);
            c.due(0, x.greatest(1));
        });
        e.edge(lowest, "no blocks", () -> c.due(0, tree("tag root 0;file root 0;file root 0;").greatest(0)));
        e.edge(lowest, "of this project alone", () -> {
            QuotaTree x = homes();
            c.due(2, x.greatest(1));
            c.due(3, x.greatest(2));
        });
        StringBuilder each = new StringBuilder();
        for (int project = 0; project < 8; project++) {
            String folder = Edges.folderName(project);
            each.append("folder " + folder + " root;tag " + folder + " " + project + ";file " + folder + " 1;");
        }
        range(NO_PROJECT, 0, 7, (x, project) -> Checks.load(x, each.toString()) + x.greatest(project));
        String none = "Throws NoSuchElementException if the project has no files";
        e.edge(none, "files without a project, and of others", () -> {
            c.element(() -> homes().greatest(0));
            c.element(() -> homes().greatest(7));
            c.element(() -> new QuotaTree().greatest(0));
        });
        e.edge(none, "an account that tells of some", () -> {
            QuotaTree x = homes();
            x.adjust(3, 1, 1);
            c.element(() -> x.greatest(3));
        });
        e.edge(none, "an account that tells of none", () -> {
            QuotaTree x = homes();
            x.adjust(2, 0, -120);
            x.adjust(2, 1, -1);
            c.due(3, x.greatest(2));
        });
        e.edge(none, "its last file is gone", () -> {
            QuotaTree x = homes();
            x.delete(3);
            c.element(() -> x.greatest(2));
        });
    }

    private static void used() {
        e.part("Promise 24");
        e.edge("Returns the used amount of a project.", () -> {
            QuotaTree x = homes();
            c.due(0, x.used(0, 0));
            c.due(90, x.used(1, 0));
            x.adjust(1, 0, -90);
            c.due(0, x.used(1, 0));
            x.adjust(1, 1, 9999);
            c.due(10001, x.used(1, 1));
        });
        accounts(NO_ACCOUNT, (x, project, kind) -> x.used(project, kind));
    }

    private static void counted() {
        e.part("Promise 25");
        e.edge("Returns the blocks or the number of its files.", () -> {
            QuotaTree x = homes();
            x.adjust(1, 0, -90);
            x.adjust(1, 1, 9999);
            c.due(90, x.counted(1, 0));
            c.due(2, x.counted(1, 1));
            c.due(0, x.counted(0, 0));
            c.due(0, x.counted(7, 1));
        });
        accounts(NO_ACCOUNT, (x, project, kind) -> x.counted(project, kind));
    }

    private static void limit() {
        e.part("Promise 26");
        String none = "Returns the effective limit; NONE if there is none.";
        e.edge(none, () -> {
            QuotaTree x = tree("limit 1 1 0 0 99999;");
            c.due(1, x.limit(1, 0, false));
            c.due(NONE, x.limit(1, 0, true));
            c.due(NONE, x.limit(1, 1, false));
            c.due(99999, x.limit(1, 1, true));
        });
        e.edge(none, "an effective one of 0", () -> {
            QuotaTree x = tree("limit 1 5 9 0 0;limit 2 0 9 0 0;");
            x.gift(1, 2, 9, 1);
            c.due(0, x.limit(1, 0, true));
            c.due(0, x.limit(1, 0, false));
            c.due(NONE, x.limit(2, 0, false));
        });
        e.edge("- hard: true for the hard one", () -> {
            c.due(100, homes().limit(1, 0, false));
            c.due(150, homes().limit(1, 0, true));
        });
        accounts(NO_ACCOUNT, (x, project, kind) -> x.limit(project, kind, true));
        accounts(NO_ACCOUNT, (x, project, kind) -> x.limit(project, kind, false));
    }

    private static void setLimit() {
        e.part("Promise 27");
        e.edge("Returns the state of the project for this kind afterwards.", () -> {
            QuotaTree x = homes();
            c.due(0, x.setLimit(1, 0, 0, 0));
            c.due(1, x.setLimit(1, 0, 90, 90));
            c.due(2, x.setLimit(1, 0, 89, 0));
            c.due(4, x.setLimit(1, 0, 89, 89));
            x.tick(5);
            c.due(3, x.setLimit(1, 0, 89, 90));
            c.due(2, x.setLimit(1, 1, 1, 0));
        });
        accounts("Throws IllegalArgumentException if an argument is out of range", (x, project, kind) -> x.setLimit(project, kind, 1, 2));
        range("- soft: 0 to 99999", 0, 99999, (x, soft) -> x.setLimit(1, 0, soft, 0));
        range("- soft: 0 to 99999", 0, 99999, (x, soft) -> x.setLimit(1, 1, soft, 0));
        range("- hard: 0 to 99999; not below soft, if it is above 0", 0, 99999, (x, hard) -> x.setLimit(1, 0, 0, hard));
        range("- hard: 0 to 99999; not below soft, if it is above 0", 0, 99999, (x, hard) -> x.setLimit(1, 1, 0, hard));
        String below = "- hard: 0 to 99999; not below soft, if it is above 0";
        e.edge(below, "below it, the same, 0", () -> {
            QuotaTree x = homes();
            for (int kind = 0; kind < 2; kind++) {
                int each = kind;
                c.argument(() -> x.setLimit(1, each, 500, 499));
                c.argument(() -> x.setLimit(1, each, 2, 1));
                c.due(1, x.setLimit(1, kind, 500, 500));
                c.due(1, x.setLimit(1, kind, 500, 0));
                c.due(1, x.setLimit(1, kind, 99999, 99999));
            }
        });
    }

    private static void setLimitRefused() {
        String gift = "Throws IllegalStateException if hard and kind are 0 and the project has given or got a gift that has not ended";
        e.edge(gift, "given, got", () -> {
            QuotaTree x = homes();
            x.gift(2, 1, 1, 5);
            c.state(() -> x.setLimit(1, 0, 0, 0));
            c.state(() -> x.setLimit(2, 0, 0, 0));
            c.state(() -> x.setLimit(2, 0, 5, 0));
            c.due(151, x.limit(1, 0, true));
        });
        e.edge(gift, "a hard limit above 0", () -> {
            QuotaTree x = homes();
            x.gift(2, 1, 1, 5);
            c.due(4, x.setLimit(1, 0, 0, 1));
            c.due(4, x.setLimit(2, 0, 1, 1));
        });
        e.edge(gift, "the kind 1", () -> {
            QuotaTree x = homes();
            x.gift(2, 1, 1, 5);
            c.due(0, x.setLimit(1, 1, 0, 0));
            c.due(0, x.setLimit(2, 1, 0, 0));
        });
        e.edge(gift, "another project's gift", () -> {
            QuotaTree x = tree(HOMES + "limit 3 0 9 0 0;");
            x.gift(2, 1, 1, 5);
            c.due(0, x.setLimit(3, 0, 0, 0));
        });
        e.edge(gift, "it has not ended by one tick, it has ended", () -> {
            QuotaTree x = homes();
            x.gift(2, 1, 1, 5);
            x.tick(4);
            c.state(() -> x.setLimit(1, 0, 0, 0));
            x.tick(1);
            c.due(0, x.setLimit(1, 0, 0, 0));
        });
        e.edge(gift, "it was ended early", () -> {
            QuotaTree x = homes();
            x.gift(2, 1, 1, 5);
            x.gift(2, 1, 1, 5);
            x.endGift(0);
            c.state(() -> x.setLimit(2, 0, 0, 0));
            x.endGift(0);
            c.due(0, x.setLimit(2, 0, 0, 0));
        });
    }

    private static void state() {
        e.part("Promise 28");
        e.edge("Returns 0 to 4.", () -> {
            QuotaTree x = tree("limit 1 10 20 0 0;tag root 1;file root 10;");
            c.due(0, x.state(0, 0));
            c.due(1, x.state(1, 0));
            x.resize(0, 11);
            c.due(2, x.state(1, 0));
            x.tick(10);
            c.due(3, x.state(1, 0));
            x.adjust(1, 0, 10);
            c.due(4, x.state(1, 0));
        });
        accounts(NO_ACCOUNT, (x, project, kind) -> x.state(project, kind));
    }

    private static void graceLeft() {
        e.part("Promise 29");
        String left = "Returns the number of ticks after which the grace is over, 0 if it is over; NONE if the clock does not run.";
        e.edge(left, "from the grace down to 0", () -> {
            QuotaTree x = tree("grace 3;limit 1 10 0 0 0;tag root 1;file root 11;");
            int[] due = {3, 2, 1, 0, 0};
            for (int i = 0; i < 5; i++) {
                c.due(due[i], x.graceLeft(1, 0));
                c.due(due[i] == 0 ? 3 : 2, x.state(1, 0));
                x.tick(1);
            }
            x.tick(999);
            c.due(0, x.graceLeft(1, 0));
        });
        e.edge(left, "the greatest grace", () -> {
            QuotaTree x = tree("grace 99;limit 1 10 0 0 0;tag root 1;file root 11;");
            c.due(99, x.graceLeft(1, 0));
            x.tick(98);
            c.due(1, x.graceLeft(1, 0));
            x.tick(1);
            c.due(0, x.graceLeft(1, 0));
        });
        e.edge(left, "the clock does not run", () -> {
            QuotaTree x = tree("limit 1 10 0 1 0;tag root 1;file root 10;");
            c.due(NONE, x.graceLeft(1, 0));
            c.due(NONE, x.graceLeft(1, 1));
            c.due(NONE, x.graceLeft(0, 0));
        });
        e.edge(left, "a grace that was changed", () -> {
            QuotaTree x = tree("grace 9;limit 1 10 0 0 0;tag root 1;file root 11;");
            x.tick(4);
            x.setGrace(5);
            c.due(1, x.graceLeft(1, 0));
            x.setGrace(4);
            c.due(0, x.graceLeft(1, 0));
            x.setGrace(3);
            c.due(0, x.graceLeft(1, 0));
            x.setGrace(9);
            c.due(5, x.graceLeft(1, 0));
        });
        accounts(NO_ACCOUNT, (x, project, kind) -> x.graceLeft(project, kind));
    }

    private static void setGrace() {
        e.part("Promise 30");
        e.edge("Returns the previous grace.", () -> {
            QuotaTree x = new QuotaTree();
            c.due(10, x.setGrace(1));
            c.due(1, x.setGrace(99));
            c.due(99, x.setGrace(99));
            c.due(99, x.count(4));
        });
        range("Throws IllegalArgumentException if grace is out of range", 1, 99, (x, grace) -> x.setGrace(grace));
    }

    private static void tick() {
        e.part("Promise 31");
        String end = "Lets time pass: the time grows at once; then gifts whose end has come are taken away.";
        e.edge(end, "a gift's end before, at and behind the time", () -> {
            QuotaTree x = homes();
            x.gift(2, 1, 1, 4);
            x.gift(2, 1, 2, 5);
            x.gift(2, 1, 3, 6);
            c.due(2, x.tick(5));
            c.due(5, x.count(3));
            c.due(3, x.giftOf(0, 2));
        });
        String number = "Returns the number of gifts that ended.";
        e.edge(number, "0, 1 and 12", () -> {
            QuotaTree x = homes();
            c.due(0, x.tick(1));
            x.gift(2, 1, 1, 1);
            c.due(1, x.tick(1));
            c.due(0, x.tick(1));
            for (int i = 0; i < 12; i++) {
                x.gift(2, 1, 1, 999);
            }
            c.due(0, x.tick(998));
            c.due(12, x.tick(1));
        });
        range("Throws IllegalArgumentException if ticks is out of range", 1, 999, (x, ticks) -> x.tick(ticks));
        String late = "Throws IllegalStateException if the time would exceed 9999";
        e.edge(late, "9999, and more than that", () -> {
            QuotaTree x = new QuotaTree();
            for (int i = 0; i < 10; i++) {
                x.tick(999);
            }
            c.due(9990, x.count(3));
            c.state(() -> x.tick(10));
            c.state(() -> x.tick(999));
            c.due(0, x.tick(9));
            c.due(9999, x.count(3));
            c.state(() -> x.tick(1));
            c.due(9999, x.count(3));
        });
        e.edge(late, "a gift that would end then stays", () -> {
            QuotaTree x = homes();
            for (int i = 0; i < 10; i++) {
                x.tick(999);
            }
            x.gift(2, 1, 1, 10);
            c.state(() -> x.tick(10));
            c.due(0, x.tick(9));
            c.due(1, x.count(5));
        });
    }

    private static void nextEvent() {
        e.part("Promise 32");
        String least = "Returns the least time, later than now, at which a gift ends or the grace of a running clock is over; NONE if there is none.";
        e.edge(least, "none", () -> {
            c.due(NONE, new QuotaTree().nextEvent());
            c.due(NONE, homes().nextEvent());
        });
        e.edge(least, "a gift alone, the least of several", () -> {
            QuotaTree x = homes();
            x.tick(2);
            x.gift(2, 1, 1, 9);
            c.due(11, x.nextEvent());
            x.gift(2, 1, 1, 8);
            c.due(10, x.nextEvent());
            x.gift(2, 1, 1, 20);
            c.due(10, x.nextEvent());
        });
        e.edge(least, "a clock alone, the least of several", () -> {
            QuotaTree x = tree("limit 1 1 0 0 0;limit 7 0 0 1 0;folder a root;tag root 1;tag a 7;");
            x.tick(3);
            x.write(1, 0);
            x.write(1, 0);
            c.due(13, x.nextEvent());
            x.tick(1);
            x.write(0, 2);
            c.due(13, x.nextEvent());
            x.delete(0);
            c.due(14, x.nextEvent());
        });
        e.edge(least, "a gift and a clock", () -> {
            QuotaTree x = tree("grace 6;limit 1 1 9 0 0;limit 2 0 9 0 0;tag root 1;file root 3;");
            x.gift(2, 1, 1, 5);
            c.due(5, x.nextEvent());
            x.tick(5);
            c.due(6, x.nextEvent());
            x.gift(2, 1, 1, 9);
            c.due(6, x.nextEvent());
            x.tick(1);
            c.due(14, x.nextEvent());
        });
        e.edge(least, "later than now: by 1, now, before", () -> {
            QuotaTree x = tree("limit 1 1 0 0 0;tag root 1;file root 2;");
            x.tick(9);
            c.due(10, x.nextEvent());
            x.tick(1);
            c.due(NONE, x.nextEvent());
            x.tick(1);
            c.due(NONE, x.nextEvent());
        });
        e.edge(least, "one clock's grace is over, another's is not", () -> {
            QuotaTree x = tree("limit 1 1 0 1 0;limit 7 0 0 1 0;folder a root;tag root 1;tag a 7;file root 2;file a 1;");
            x.tick(10);
            x.write(1, 1);
            c.due(20, x.nextEvent());
        });
        e.edge(least, "behind the last time", () -> {
            QuotaTree x = tree("grace 99;limit 1 1 0 0 0;tag root 1;");
            for (int i = 0; i < 10; i++) {
                x.tick(999);
            }
            x.tick(9);
            x.write(0, 2);
            c.due(10098, x.nextEvent());
        });
    }

    private static void share() {
        e.part("Promise 33");
        String both = "Returns how much of its effective hard limit a project uses: both numbers as floats, divided.";
        e.edge(both, "0, below 1, 1, above 1", () -> {
            QuotaTree x = tree("limit 1 0 3 0 2;tag root 1;");
            same(0f, x.share(1, 0));
            x.write(0, 1);
            same(1f / 3f, x.share(1, 0));
            same(0.5f, x.share(1, 1));
            x.resize(0, 3);
            same(1f, x.share(1, 0));
            x.adjust(1, 0, 9999);
            same(10002f / 3f, x.share(1, 0));
        });
        e.edge(both, "the effective limit", () -> {
            QuotaTree x = homes();
            x.gift(2, 1, 7, 5);
            same(90f / 157f, x.share(1, 0));
            same(120f / 193f, x.share(2, 0));
            same(2f / 5f, x.share(1, 1));
        });
        StringBuilder each = new StringBuilder();
        for (int project = 0; project < 8; project++) {
            each.append("limit " + project + " 0 900 0 900;");
        }
        accounts(NO_ACCOUNT, (x, project, kind) -> Checks.load(x, each.toString()) + (long) x.share(project, kind));
        String none = "Throws NoSuchElementException if there is no hard limit, or the effective one is 0";
        e.edge(none, "no limit, a soft one, one of the other kind", () -> {
            QuotaTree x = tree("limit 1 5 0 0 5;limit 2 0 5 5 0;");
            c.element(() -> (long) x.share(0, 0));
            c.element(() -> (long) x.share(1, 0));
            c.element(() -> (long) x.share(2, 1));
            same(0f, x.share(1, 1));
        });
        e.edge(none, "an effective one of 1, 0, and what would be below 0", () -> {
            QuotaTree x = tree("limit 1 0 9 0 0;limit 2 0 9 0 0;");
            x.gift(1, 2, 8, 5);
            same(0f, x.share(1, 0));
            x.gift(1, 2, 1, 5);
            c.element(() -> (long) x.share(1, 0));
            x.setLimit(1, 0, 0, 5);
            c.element(() -> (long) x.share(1, 0));
            x.tick(5);
            same(0f, x.share(1, 0));
        });
    }

    private static void same(float due, float got) {
        c.due(Float.floatToRawIntBits(due), Float.floatToRawIntBits(got));
    }

    private static void gift() {
        e.part("Promise 34");
        e.edge("Returns its number.", () -> {
            QuotaTree x = homes();
            c.due(0, x.gift(2, 1, 1, 1));
            c.due(1, x.gift(1, 2, 1, 1));
            x.endGift(0);
            c.due(1, x.gift(2, 1, 1, 1));
        });
        String wrong = "Throws IllegalArgumentException if an argument is out of range, or both projects are the same";
        String limits = "limit 0 0 99999 0 0;limit 1 0 99999 0 0;limit 7 0 99999 0 0;";
        range(wrong, 0, 7, (x, from) -> Checks.load(x, limits) + x.gift(from, 1, 1, 1));
        range(wrong, 0, 7, (x, to) -> Checks.load(x, limits) + x.gift(1, to, 1, 1));
        range("- blocks: 1 to 9999", 1, 9999, (x, blocks) -> Checks.load(x, limits) + x.gift(0, 1, blocks, 1));
        range("- ticks: after how many ticks it ends, 1 to 999", 1, 999, (x, ticks) -> Checks.load(x, limits) + x.gift(0, 1, 1, ticks));
        e.edge(wrong, "both projects are the same", () -> {
            QuotaTree x = tree(limits);
            c.argument(() -> x.gift(0, 0, 1, 1));
            c.argument(() -> x.gift(7, 7, 1, 1));
            c.argument(() -> x.gift(3, 3, 1, 1));
        });
        e.edge("- ticks: after how many ticks it ends, 1 to 999", "its end", () -> {
            QuotaTree x = tree(limits);
            x.gift(0, 1, 1, 1);
            x.gift(0, 1, 1, 999);
            c.due(1, x.tick(1));
            c.due(0, x.tick(997));
            c.due(1, x.tick(1));
        });
        String refused = "Throws IllegalStateException if it is refused (section 4)";
        e.edge(refused, "for each of the reasons", () -> {
            c.state(() -> tree(limits).gift(2, 1, 1, 1));
            c.state(() -> tree(limits).gift(1, 2, 1, 1));
            c.state(() -> homes().gift(2, 1, 81, 1));
            c.due(0, homes().gift(2, 1, 80, 1));
            QuotaTree x = tree(limits);
            for (int i = 0; i < 12; i++) {
                x.gift(0, 1, 1, 1);
            }
            c.state(() -> x.gift(0, 1, 1, 1));
            c.due(12, x.count(5));
        });
    }

    private static void giftOf() {
        e.part("Promise 35");
        String what = "- what: 0: the project that gives; 1: the one that gets; 2: its blocks; 3: the time at which it ends";
        e.edge(what, () -> {
            QuotaTree x = tree("limit 0 0 99999 0 0;limit 7 0 99999 0 0;");
            x.tick(4);
            x.gift(0, 7, 9999, 999);
            x.gift(7, 0, 1, 1);
            int[][] due = {{0, 7, 9999, 1003}, {7, 0, 1, 5}};
            for (int gift = 0; gift < 2; gift++) {
                for (int i = 0; i < 4; i++) {
                    c.due(due[gift][i], x.giftOf(gift, i));
                }
            }
        });
        indices(NO_GIFT, "", 1, (x, gift) -> {
            if (x.count(5) == 0) {
                x.gift(2, 1, 1, 1);
            }
            return x.giftOf(gift, 0);
        });
        e.edge(NO_GIFT, "none, 12", () -> {
            QuotaTree x = homes();
            c.index(() -> x.giftOf(0, 0));
            for (int i = 0; i < 12; i++) {
                x.gift(2, 1, 1, 1);
            }
            c.due(2, x.giftOf(11, 0));
            c.index(() -> x.giftOf(12, 0));
            x.tick(1);
            c.index(() -> x.giftOf(0, 0));
        });
        range(OTHER_WHAT, 0, 3, (x, number) -> x.gift(2, 1, 1, 1) + x.giftOf(0, number));
    }

    private static void endGift() {
        e.part("Promise 36");
        String number = "Returns the number of gifts afterwards.";
        e.edge(number, "from 12 to 0", () -> {
            QuotaTree x = homes();
            for (int i = 0; i < 12; i++) {
                x.gift(2, 1, i + 1, 9);
            }
            for (int i = 11; i >= 0; i--) {
                c.due(i, x.endGift(i / 2));
            }
            c.due(150, x.limit(1, 0, true));
            c.due(200, x.limit(2, 0, true));
        });
        e.edge("Ends a gift early.", "those behind it get lower numbers", () -> {
            int[][] due = {{2, 3}, {1, 3}, {1, 2}};
            for (int gone = 0; gone < 3; gone++) {
                QuotaTree x = homes();
                x.gift(2, 1, 1, 9);
                x.gift(1, 2, 2, 8);
                x.gift(2, 1, 3, 7);
                x.endGift(gone);
                for (int i = 0; i < 2; i++) {
                    c.due(due[gone][i], x.giftOf(i, 2));
                    c.due(due[gone][i] == 2 ? 1 : 2, x.giftOf(i, 0));
                    c.due(due[gone][i] == 2 ? 2 : 1, x.giftOf(i, 1));
                    c.due(10 - due[gone][i], x.giftOf(i, 3));
                }
            }
        });
        indices(NO_GIFT, "", 1, (x, gift) -> {
            if (x.count(5) == 0) {
                x.gift(2, 1, 1, 1);
            }
            return x.endGift(gift);
        });
        e.edge(NO_GIFT, "none, and one that has ended", () -> {
            QuotaTree x = homes();
            c.index(() -> x.endGift(0));
            x.gift(2, 1, 1, 1);
            x.tick(1);
            c.index(() -> x.endGift(0));
        });
    }

    private static void adjust() {
        e.part("Promise 37");
        e.edge("Returns the used amount afterwards.", () -> {
            QuotaTree x = homes();
            c.due(90, x.adjust(1, 0, 0));
            c.due(91, x.adjust(1, 0, 1));
            c.due(0, x.adjust(1, 0, -91));
            c.due(3, x.adjust(1, 1, 1));
            c.due(3, x.used(1, 1));
        });
        e.edge("- by: -9999 to 9999", () -> {
            QuotaTree x = homes();
            c.due(9999, x.adjust(0, 0, 9999));
            c.due(0, x.adjust(0, 0, -9999));
            c.argument(() -> x.adjust(0, 0, 10000));
            c.argument(() -> x.adjust(0, 0, -10000));
            c.argument(() -> x.adjust(0, 0, LEAST));
            c.argument(() -> x.adjust(0, 0, MOST));
        });
        String wrong = "Throws IllegalArgumentException if project, kind or by is out of range";
        accounts(wrong, (x, project, kind) -> x.adjust(project, kind, 1));
        e.edge(wrong, "by", () -> {
            QuotaTree x = homes();
            for (int by : new int[] {-10000, 10000, -10001, 10001, LEAST, MOST}) {
                c.argument(() -> x.adjust(1, 0, by));
                c.argument(() -> x.adjust(7, 1, by));
            }
        });
        String out = "Throws IllegalStateException if the used amount would be below 0 or above 999999";
        e.edge(out, "0, and below it", () -> {
            QuotaTree x = homes();
            c.state(() -> x.adjust(1, 0, -91));
            c.state(() -> x.adjust(1, 1, -3));
            c.state(() -> x.adjust(0, 0, -1));
            c.due(0, x.adjust(1, 0, -90));
            c.due(0, x.adjust(1, 1, -2));
            c.state(() -> x.adjust(1, 0, -1));
        });
        e.edge(out, "999999, and above it", () -> {
            QuotaTree x = new QuotaTree();
            for (int i = 1; i <= 100; i++) {
                x.adjust(3, 0, 9999);
            }
            c.due(999998, x.adjust(3, 0, 98));
            c.state(() -> x.adjust(3, 0, 2));
            c.due(999999, x.adjust(3, 0, 1));
            c.state(() -> x.adjust(3, 0, 1));
            c.state(() -> x.adjust(3, 0, 9999));
            c.due(999999, x.adjust(3, 0, 0));
            c.due(999998, x.adjust(3, 0, -1));
        });
    }

    private static void repair() {
        e.part("Promise 38");
        String number = "Returns the number of used amounts that were wrong.";
        e.edge(number, "0, 1", () -> {
            QuotaTree x = homes();
            c.due(0, x.repair());
            x.adjust(1, 0, 1);
            c.due(1, x.repair());
            c.due(0, x.repair());
        });
        e.edge(number, "all 16", () -> {
            QuotaTree x = homes();
            for (int account = 0; account < 16; account++) {
                x.adjust(account / 2, account % 2, 1);
            }
            c.due(16, x.repair());
            for (int account = 0; account < 16; account++) {
                c.due(x.counted(account / 2, account % 2), x.used(account / 2, account % 2));
            }
        });
        e.edge(number, "an amount that was wrong and became right", () -> {
            QuotaTree x = homes();
            x.adjust(1, 0, 1);
            x.adjust(1, 0, -1);
            c.due(0, x.repair());
        });
        e.edge("Sets all used amounts to what is counted anew.", "too much, too little", () -> {
            QuotaTree x = homes();
            x.adjust(1, 0, -90);
            x.adjust(2, 0, 9999);
            x.adjust(2, 1, -1);
            c.due(3, x.repair());
            c.due(90, x.used(1, 0));
            c.due(120, x.used(2, 0));
            c.due(1, x.used(2, 1));
        });
    }

    private static void writePath() {
        e.part("Promise 39");
        String path = "Writes the path of a folder, in place of what was written before: the names from the root to the folder,"
                + " with a slash between two of them.";
        e.edge(path, "the root: no slash", () -> {
            QuotaTree x = new QuotaTree();
            c.due("root", Checks.written(x, x.writePath(0)));
        });
        e.edge(path, "one slash, two", () -> {
            QuotaTree x = homes();
            c.due("root/usr", Checks.written(x, x.writePath(1)));
            c.due("root/home/bob", Checks.written(x, x.writePath(4)));
        });
        e.edge(path, "40 names, a and z, 1 and 8 letters", () -> {
            QuotaTree x = new QuotaTree();
            StringBuilder due = new StringBuilder("root");
            for (int i = 1; i < 40; i++) {
                String letters = Edges.folderName(i) + (i % 2 == 0 ? "azazaz" : "");
                x.addFolder(i - 1, name(letters));
                due.append('/').append(letters);
            }
            int length = x.writePath(39);
            c.due(due.length(), length);
            c.due(due.toString(), Checks.written(x, length));
        });
        e.edge(path, "in place of a longer one", () -> {
            QuotaTree x = homes();
            x.writePath(4);
            c.due(4, x.writePath(0));
            c.index(() -> x.writtenByte(4));
            c.due('t', x.writtenByte(3));
        });
        e.edge("Returns the length of the text.", "the longest one", () -> {
            QuotaTree x = new QuotaTree();
            for (int i = 1; i < 40; i++) {
                x.addFolder(i - 1, name("zzzzzz" + Edges.folderName(i)));
            }
            c.due(355, x.writePath(39));
            c.due('b', x.writtenByte(354));
            c.index(() -> x.writtenByte(355));
        });
        folders((x, folder) -> x.writePath(folder));
    }

    private static void written(QuotaTree x, int project, String due) {
        c.due(due, Checks.written(x, x.writeAccounts(project)));
    }

    private static void writeAccounts() {
        e.part("Promise 40");
        String text = "Writes the accounts of a project, in place of what was written before: its number and a colon; then for each kind a space,"
                + " the used amount, a slash, the effective hard limit or a minus sign if there is none, and a plus sign if the state is 2,"
                + " or an exclamation mark if it is 3 or 4.";
        e.edge(text, "the first and the last project, nothing", () -> {
            written(new QuotaTree(), 0, "0: 0/- 0/-");
            written(new QuotaTree(), 7, "7: 0/- 0/-");
        });
        e.edge(text, "no sign for 0 and 1, a plus for 2, a mark for 3", () -> {
            QuotaTree x = tree("grace 2;limit 1 10 20 2 0;tag root 1;file root 10;file root 0;");
            written(x, 1, "1: 10/20 2/-");
            x.write(0, 1);
            written(x, 1, "1: 11/20+ 3/-+");
            x.tick(1);
            written(x, 1, "1: 11/20+ 3/-+");
            x.tick(1);
            written(x, 1, "1: 11/20! 3/-!");
        });
        e.edge(text, "a mark for 4, not at the limit", () -> {
            QuotaTree x = tree("limit 1 0 10 0 1;tag root 1;file root 10;");
            written(x, 1, "1: 10/10 1/1");
            x.adjust(1, 0, 1);
            written(x, 1, "1: 11/10! 1/1");
            x.adjust(1, 1, 1);
            written(x, 1, "1: 11/10! 2/1!");
        });
        e.edge(text, "an effective limit of 0, one by gifts", () -> {
            QuotaTree x = tree("limit 1 5 9 0 0;limit 2 0 9 0 0;");
            x.gift(1, 2, 9, 9);
            written(x, 1, "1: 0/0 0/-");
            written(x, 2, "2: 0/18 0/-");
            x.adjust(1, 0, 1);
            written(x, 1, "1: 1/0! 0/-");
        });
        e.edge(text, "the greatest numbers, and zeros inside", () -> {
            QuotaTree x = tree("limit 4 0 99999 100 1000;tag root 4;file root 9999;");
            for (int i = 0; i < 99; i++) {
                x.adjust(4, 0, 9999);
            }
            written(x, 4, "4: 999900/99999! 1/1000");
            x.adjust(4, 0, 99);
            x.write(0, 0);
            written(x, 4, "4: 999999/99999! 2/1000");
            x.setLimit(4, 0, 0, 0);
            x.write(0, 9999);
            written(x, 4, "4: 1009998/- 3/1000");
            x.delete(2);
            x.repair();
            x.resize(0, 1);
            x.setLimit(4, 0, 0, 10010);
            written(x, 4, "4: 1/10010 2/1000");
        });
        e.edge(text, "in place of a longer one", () -> {
            QuotaTree x = homes();
            x.writeAccounts(1);
            c.due(10, x.writeAccounts(0));
            c.index(() -> x.writtenByte(10));
        });
        e.edge("Returns the length of the text.", () -> {
            c.due(10, new QuotaTree().writeAccounts(3));
            c.due(14, homes().writeAccounts(2));
        });
        range(NO_PROJECT, 0, 7, (x, project) -> x.writeAccounts(project));
    }

    private static void writtenByte() {
        e.part("Promise 41");
        String none = "Returns a byte of the text that was written last; there is none at first.";
        e.edge(none, "at first", () -> c.index(() -> new QuotaTree().writtenByte(0)));
        e.edge(none, "the text that was written last", () -> {
            QuotaTree x = homes();
            x.writePath(1);
            x.writeAccounts(1);
            c.due('1', x.writtenByte(0));
            x.writePath(1);
            c.due('r', x.writtenByte(0));
        });
        e.edge(none, "a call of load or append writes nothing there", () -> {
            QuotaTree x = homes();
            c.index(() -> x.writtenByte(0));
            x.writePath(0);
            x.append(-1, -1, -1, -1, -1);
            x.load(0);
            c.due('r', x.writtenByte(0));
        });
        e.edge("- index: 0 for the first byte", () -> {
            QuotaTree x = homes();
            x.writePath(1);
            c.due('r', x.writtenByte(0));
            c.due('/', x.writtenByte(4));
            c.due('r', x.writtenByte(7));
        });
        String no = "Throws IndexOutOfBoundsException if there is no such byte";
        indices(no, "", 4, (x, index) -> {
            x.writePath(0);
            return x.writtenByte(index);
        });
        e.edge(no, "what a longer text left behind", () -> {
            QuotaTree x = homes();
            x.writePath(4);
            x.writePath(0);
            for (int i = 4; i < 20; i++) {
                int index = i;
                c.index(() -> x.writtenByte(index));
            }
        });
    }

    private static void undo() {
        e.part("Promise 42");
        e.edge("Undoes the latest change that has not been undone.", () -> {
            QuotaTree x = new QuotaTree();
            x.setGrace(1);
            x.setGrace(2);
            x.setGrace(3);
            x.undo();
            c.due(2, x.count(4));
            x.undo();
            c.due(1, x.count(4));
            x.setGrace(4);
            x.undo();
            c.due(1, x.count(4));
            x.undo();
            c.due(10, x.count(4));
        });
        String number = "Returns the number of changes that can still be undone.";
        e.edge(number, "0, 7", () -> {
            QuotaTree x = new QuotaTree();
            x.setGrace(1);
            c.due(0, x.undo());
            for (int i = 1; i <= 8; i++) {
                x.setGrace(i);
            }
            c.due(7, x.undo());
            QuotaTree y = new QuotaTree();
            for (int i = 1; i <= 30; i++) {
                y.setGrace(i);
            }
            c.due(7, y.undo());
        });
        String none = "Throws IllegalStateException if there is no change to undo";
        e.edge(none, "at first", () -> c.state(() -> new QuotaTree().undo()));
        e.edge(none, "behind those that can be undone", () -> {
            for (int made : new int[] {1, 7, 8, 9, 20}) {
                QuotaTree x = new QuotaTree();
                for (int i = 1; i <= made; i++) {
                    x.setGrace(i);
                }
                for (int i = 0; i < Math.min(made, 8); i++) {
                    x.undo();
                }
                c.state(() -> x.undo());
                c.state(() -> x.undo());
                x.setGrace(50);
                c.due(0, x.undo());
                c.state(() -> x.undo());
            }
        });
        e.edge(none, "calls that change nothing", () -> {
            QuotaTree x = new QuotaTree();
            x.append(0, 0, 0, 0, 0);
            x.load(1);
            x.writePath(0);
            x.count(0);
            c.state(() -> x.undo());
        });
    }
}
