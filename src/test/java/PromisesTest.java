/** Each promise of the document in turn: ordinary inputs, named edges, wrong inputs. */
public final class PromisesTest {

    private static final Checks c = new Checks();
    private static final int NONE = QuotaTree.NONE;
    private static final int SYNTAX = QuotaTree.SYNTAX_ERROR;
    private static final int VALUE = QuotaTree.VALUE_ERROR;
    private static final int MANY = QuotaTree.TOO_MANY;

    /** usr 1, home 2 (project 1), ann 3, bob 4 (project 2); files 0 to 4. */
    private static final String HOMES = "grace 5; limit 1 100 150 3 5; limit 2 0 200 0 0;"
            + "folder usr root; folder home root; folder ann home; folder bob home;"
            + "tag home 1; tag bob 2; file root 10; file home 40; file ann 50; file bob 120;"
            + "file usr 5;";

    public static void main(String[] args) {
        newObject();
        append();
        loadReads();
        loadReplaces();
        loadTokens();
        loadSyntax();
        loadValues();
        loadTooMany();
        errorPosition();
        count();
        find();
        folder();
        walked();
        heaviest();
        addFolder();
        removeFolder();
        tagReason();
        tag();
        moveReason();
        moveFolder();
        file();
        writeReason();
        write();
        room();
        resize();
        delete();
        moveFile();
        greatest();
        used();
        counted();
        limit();
        setLimit();
        state();
        graceLeft();
        setGrace();
        tick();
        nextEvent();
        share();
        gift();
        giftOf();
        endGift();
        adjust();
        repair();
        writePath();
        writeAccounts();
        writtenByte();
        undo();
        clocksBehindEachChange();
        undoOfEachChange();
        noUndoOfOtherCalls();
        c.close("PromisesTest");
    }

    private static void newObject() {
        c.begin("promise 1");
        QuotaTree x = new QuotaTree();
        c.due(-1, QuotaTree.NONE);
        c.due(-2, QuotaTree.SYNTAX_ERROR);
        c.due(-3, QuotaTree.VALUE_ERROR);
        c.due(-4, QuotaTree.TOO_MANY);
        int[] counts = {1, 0, 0, 0, 10, 0, 0, 0};
        for (int what = 0; what < 8; what++) {
            c.due(counts[what], x.count(what));
        }
        c.due(0, x.find(Checks.name("root")));
        c.due(NONE, x.folder(0, 1));
        for (int project = 0; project < 8; project++) {
            for (int kind = 0; kind < 2; kind++) {
                c.due(0, x.used(project, kind));
                c.due(NONE, x.limit(project, kind, false));
                c.due(NONE, x.limit(project, kind, true));
                c.due(NONE, x.graceLeft(project, kind));
                c.due(0, x.state(project, kind));
            }
        }
        c.argument(() -> x.load(1));
        c.index(() -> x.writtenByte(0));
        c.state(() -> x.undo());
    }

    private static void append() {
        c.begin("promise 2");
        QuotaTree x = new QuotaTree();
        for (int i = 1; i <= 45; i++) {
            c.due(20 * i, x.append(0x20202020, 0x20202020, 0x20202020, 0x20202020, 0x20202020));
        }
        c.state(() -> x.append(0, 0, 0, 0, 0));
        c.due(0, x.load(900));
        c.due(20, x.append(0x67726163, 0x65202033, 0x203b6c69, 0x6d697420, 0x31203220));
        c.due(40, x.append(0x33203420, 0x353b2020, 0x20202020, 0x20202020, 0xff808182));
        c.due(0, x.load(36));
        c.due(3, x.count(4));
        c.due(2, x.limit(1, 0, false));
        c.due(3, x.limit(1, 0, true));
        c.due(4, x.limit(1, 1, false));
        c.due(5, x.limit(1, 1, true));
        c.due(20, x.append(0x20ff2020, 0, 0, 0, 0));
        c.due(SYNTAX, x.load(20));
        c.due(1, x.errorPosition());
    }

    private static void loadReads() {
        c.begin("promise 3");
        QuotaTree x = new QuotaTree();
        c.due(5, Checks.load(x, HOMES));
        c.due(5, x.count(0));
        c.due(225, x.count(2));
        c.due(5, x.count(4));
        c.due(2, x.folder(3, 0));
        c.due(2, x.folder(4, 1));
        c.due(90, x.used(1, 0));
        c.due(2, x.used(1, 1));
        c.due(120, x.used(2, 0));
        c.argument(() -> x.load(-1));
        c.argument(() -> x.load(1));
        c.due(20, x.append(0x3b202020, 0x20202020, 0x20202020, 0x20202020, 0x20202020));
        c.argument(() -> x.load(21));
        c.due(0, x.load(0));
        c.due(1, x.count(0));
        c.argument(() -> x.load(1));
        c.due(0, Checks.load(x, "grace 4; grace 7; limit 3 1 2 3 4; limit 3 5 0 0 6; tag root 2; tag root 5;"));
        c.due(7, x.count(4));
        c.due(5, x.limit(3, 0, false));
        c.due(NONE, x.limit(3, 0, true));
        c.due(NONE, x.limit(3, 1, false));
        c.due(6, x.limit(3, 1, true));
        c.due(5, x.folder(0, 1));
        c.due(2, Checks.load(x, "limit 4 1 2 1 1; tag root 4; file root 9; file root 9;"));
        c.due(18, x.used(4, 0));
        c.due(4, x.state(4, 0));
        c.due(10, x.graceLeft(4, 0));
        c.due(10, x.graceLeft(4, 1));
        c.due(0, Checks.load(x, "limit 7 99999 99999 0 99999; grace 99;"));
        c.due(99999, x.limit(7, 0, false));
        c.due(1, Checks.load(x, "file root 9999;"));
    }

    private static void loadReplaces() {
        c.begin("promise 3, replacing");
        QuotaTree x = Checks.tree(HOMES);
        x.tick(7);
        x.write(3, 20);
        x.gift(2, 1, 10, 5);
        c.due(VALUE, Checks.load(x, "grace 9; folder x root; tag x 8;"));
        c.due(5, x.count(0));
        c.due(5, x.count(4));
        c.due(7, x.count(3));
        c.due(1, x.count(5));
        c.due(20, x.append(0x20202020, 0x20202020, 0x20202020, 0x20202020, 0x20202020));
        c.due(0, x.load(20));
        c.due(0, x.count(3));
        c.due(10, x.count(4));
        c.due(0, x.count(5));
        c.due(0, x.used(1, 0));
        c.due(NONE, x.limit(1, 0, true));
        // a clock that ran before begins anew at the time 0
        QuotaTree y = Checks.tree("limit 0 1 0 0 0; tag root 0; file root 2;");
        y.tick(4);
        c.due(6, y.graceLeft(0, 0));
        c.due(1, Checks.load(y, "limit 0 1 0 0 0; tag root 0; file root 2;"));
        c.due(10, y.graceLeft(0, 0));
    }

    private static void error(int code, int position, String text) {
        QuotaTree x = new QuotaTree();
        c.due(text + ": " + code, text + ": " + Checks.load(x, text));
        c.due(text + ": at " + position, text + ": at " + x.errorPosition());
    }

    private static void prefix(int code, int position, String text, int length) {
        QuotaTree x = new QuotaTree();
        Checks.put(x, text);
        c.due(code, x.load(length));
        c.due(position, x.errorPosition());
    }

    private static void fine(String text) {
        QuotaTree x = new QuotaTree();
        int files = Checks.load(x, text);
        c.due(text + ": right", text + ": " + (files >= 0 ? "right" : "at " + x.errorPosition()));
    }

    private static void loadTokens() {
        c.begin("section 6, tokens");
        fine("");
        fine("tag root 7; limit 7 0 0 0 0; grace 1;");
        fine("     ");
        fine("grace5;limit1 2 3 4 5;folder a root;tag a1;file a00000000000000000000000000007;");
        fine("  grace  000000000000000000000000000000000000099 ;  folder grace root;"
                + "folder file grace;tag file 0;file folder 1;".replace("folder 1", "file 1"));
        fine("folder abcdefgh root ; folder limit abcdefgh;file limit 9999 ;  ");
    }

    private static void loadSyntax() {
        c.begin("section 6, syntax");
        error(SYNTAX, 0, ";");
        error(SYNTAX, 2, "  ;");
        error(SYNTAX, 0, "Grace 5;");
        error(SYNTAX, 0, "graces 5;");
        error(SYNTAX, 0, "grac");
        error(SYNTAX, 0, "foldera root;");
        error(SYNTAX, 0, "abcdefghijklmnopqrstuvwxyzgrace 5;");
        error(SYNTAX, 5, "grace");
        error(SYNTAX, 8, "grace   ");
        error(SYNTAX, 6, "grace x;");
        error(SYNTAX, 6, "grace -5;");
        error(SYNTAX, 7, "grace 5");
        error(SYNTAX, 8, "grace 5 ");
        error(SYNTAX, 8, "grace 5 6;");
        error(SYNTAX, 7, "grace 5x;");
        error(SYNTAX, 8, "grace 5;;");
        error(SYNTAX, 7, "grace 5,");
        error(SYNTAX, 6, "grace ;");
        error(SYNTAX, 14, "limit 1 2 3 4 ;");
        error(SYNTAX, 14, "limit 1 2 3 4 a;");
        error(SYNTAX, 13, "limit 1 2 3 4");
        error(SYNTAX, 7, "folder abcdefghi root;");
        error(SYNTAX, 9, "folder a abcdefghi;");
        error(SYNTAX, 8, "folder a;");
        error(SYNTAX, 9, "folder a 1;");
        error(SYNTAX, 8, "folder a1 root;");
        error(SYNTAX, 7, "folder 1 root;");
        error(SYNTAX, 14, "folder aa root");
        error(SYNTAX, 12, "folder aroot;");
        error(SYNTAX, 8, "tag root;");
        error(SYNTAX, 4, "tag 1;");
        error(SYNTAX, 9, "file root;");
        error(SYNTAX, 11, "file root 1\t;");
        error(SYNTAX, 0, "\u00e9");
        error(SYNTAX, 8, "grace 5;\n");
        // what stands behind the length is not read
        prefix(SYNTAX, 7, "grace 5;", 7);
        prefix(SYNTAX, 7, "grace 55;", 7);
        prefix(SYNTAX, 0, "grace 5;", 4);
        prefix(VALUE, 9, "folder a root;", 12);
        prefix(VALUE, 9, "folder a a root;", 10);
        prefix(SYNTAX, 7, "folder       a root;", 7);
    }

    private static void loadValues() {
        c.begin("section 6, values");
        error(VALUE, 6, "grace 0;");
        error(VALUE, 6, "grace 100;");
        error(VALUE, 6, "grace 100");
        error(VALUE, 6, "grace 4294967297;");
        error(VALUE, 6, "grace 18446744073709551617;");
        error(VALUE, 7, "limit  8 0 0 0 0;");
        error(VALUE, 8, "limit 7 100000 0 0 0;");
        error(VALUE, 10, "limit 7 0 100000 0 0;");
        error(VALUE, 12, "limit 7 0 0 100000 0;");
        error(VALUE, 14, "limit 7 0 0 0 100000;");
        error(VALUE, 10, "limit 7 5 4 x");
        error(VALUE, 14, "limit 7 5 0 5 4;");
        error(VALUE, 7, "folder root root;");
        error(VALUE, 22, "folder a root; folder a root;");
        error(VALUE, 22, "folder a root; folder a zz;");
        error(VALUE, 9, "folder a a;");
        error(VALUE, 9, "folder a b; folder b root;");
        error(VALUE, 4, "tag a 1;");
        error(VALUE, 9, "tag root 8;");
        error(VALUE, 5, "file a 1;");
        error(VALUE, 10, "file root 10000;");
        QuotaTree x = Checks.tree("limit 1 5 5 5 5; limit 2 5 0 5 0; limit 3 0 1 0 1; grace 1;");
        c.due(1, x.count(4));
    }

    private static void loadTooMany() {
        c.begin("section 6, too many");
        StringBuilder files = new StringBuilder();
        for (int i = 0; i < 60; i++) {
            files.append("file root 1;");
        }
        error(MANY, 720, files + "file root 1;");
        error(MANY, 722, files + "  file zz 1;");
        error(MANY, 720, files + "file;");
        fine(files + "folder a root;");
        StringBuilder folders = new StringBuilder();
        for (int i = 1; i < 40; i++) {
            folders.append("folder ").append((char) ('a' + i % 26)).append((char) ('a' + i / 26)).append(" root;");
        }
        fine(folders + "file root 1;");
        int end = folders.length();
        error(MANY, end, folders + "folder zz root;");
        error(MANY, end, folders + "folder root zz;");
        error(MANY, end + 1, folders + " folder");
    }

    private static void errorPosition() {
        c.begin("promise 4");
        QuotaTree x = new QuotaTree();
        c.due(NONE, x.errorPosition());
        Checks.load(x, "grace 5; x");
        c.due(9, x.errorPosition());
        c.argument(() -> x.load(1));
        c.due(9, x.errorPosition());
        x.addFolder(0, 1);
        x.undo();
        c.due(9, x.errorPosition());
        x.load(0);
        c.due(NONE, x.errorPosition());
        Checks.put(x, "grace 5; x");
        x.load(9);
        c.due(NONE, x.errorPosition());
    }

    private static void count() {
        c.begin("promise 5");
        QuotaTree x = Checks.tree(HOMES);
        x.tick(3);
        x.gift(2, 1, 5, 9);
        int[] counts = {5, 5, 225, 3, 5, 1, 2, 2};
        for (int what = 0; what < 8; what++) {
            c.due(counts[what], x.count(what));
        }
        c.argument(() -> x.count(-1));
        c.argument(() -> x.count(8));
    }

    private static void find() {
        c.begin("promise 6");
        QuotaTree x = Checks.tree(HOMES + "folder zzzzzzzz bob;");
        c.due(0, x.find(Checks.name("root")));
        c.due(1, x.find(Checks.name("usr")));
        c.due(5, x.find(Checks.name("zzzzzzzz")));
        c.due(NONE, x.find(Checks.name("us")));
        c.due(NONE, x.find(0));
        c.due(NONE, x.find(-1));
        c.due(NONE, x.find(Checks.name("usr") | 1L << 40));
        x.removeFolder(5);
        c.due(NONE, x.find(Checks.name("zzzzzzzz")));
    }

    private static void folder() {
        c.begin("promise 7");
        QuotaTree x = Checks.tree(HOMES);
        int[][] numbers = {
            {-1, -1, -1, 2, 1, 0, 5, 5, 225, 2},
            {0, -1, -1, 0, 1, 1, 1, 1, 5, 1},
            {0, 1, 1, 2, 1, 1, 3, 3, 210, 2},
            {2, -1, 1, 0, 1, 2, 1, 1, 50, 1},
            {2, 2, 2, 0, 1, 2, 1, 1, 120, 1}};
        for (int folder = 0; folder < 5; folder++) {
            for (int what = 0; what < 10; what++) {
                c.due(numbers[folder][what], x.folder(folder, what));
            }
        }
        c.index(() -> x.folder(-1, 0));
        c.index(() -> x.folder(5, 10));
        c.argument(() -> x.folder(0, 10));
        c.argument(() -> x.folder(0, -1));
        // the open part ends at a tag between, not only at the tag of the file's own folder
        QuotaTree y = Checks.tree("folder a root; folder b a; folder d b; tag a 0; file d 1; file a 2;");
        c.due(0, y.folder(0, 9));
        c.due(2, y.folder(1, 9));
        y.tag(1, NONE);
        c.due(2, y.folder(0, 9));
    }

    private static void walked() {
        c.begin("promise 8");
        QuotaTree x = Checks.tree("folder a root; folder b root; folder d a; folder e b; folder f a;");
        int[] order = {0, 1, 3, 5, 2, 4};
        for (int i = 0; i < 6; i++) {
            c.due(order[i], x.walked(i));
        }
        x.moveFolder(1, 4);
        int[] moved = {0, 2, 4, 1, 3, 5};
        for (int i = 0; i < 6; i++) {
            c.due(moved[i], x.walked(i));
        }
        c.index(() -> x.walked(6));
        c.index(() -> x.walked(-1));
        QuotaTree deep = new QuotaTree();
        for (int i = 0; i < 39; i++) {
            deep.addFolder(i, 32L * (i % 26 + 1) + i / 26 + 1);
        }
        c.due(39, deep.walked(39));
        c.due(39, deep.folder(39, 5));
        c.due(40, deep.folder(0, 6));
    }

    private static void heaviest() {
        c.begin("promise 9");
        QuotaTree x = Checks.tree(HOMES);
        c.due(2, x.heaviest(0));
        c.due(4, x.heaviest(2));
        x.resize(3, 50);
        c.due(3, x.heaviest(2));
        c.element(() -> x.heaviest(1));
        c.index(() -> x.heaviest(5));
        c.index(() -> x.heaviest(-1));
        QuotaTree y = Checks.tree("folder a root; folder b root;");
        c.due(1, y.heaviest(0));
    }

    private static void addFolder() {
        c.begin("promise 10");
        QuotaTree x = Checks.tree(HOMES);
        c.due(5, x.addFolder(4, Checks.name("abcdefgh")));
        c.due(4, x.folder(5, 0));
        c.due(NONE, x.folder(5, 1));
        c.due(2, x.folder(5, 2));
        c.due(5, x.find(Checks.name("abcdefgh")));
        c.index(() -> x.addFolder(6, 0));
        c.index(() -> x.addFolder(-1, 1));
        long[] bad = {0, -1, 27, 31, 32, 33L << 5, Checks.name("ann"), Checks.name("root"),
            Checks.name("abcdefgh") << 5 | 1, 1L << 40, Long.MIN_VALUE | 1, Long.MAX_VALUE,
            1L << 45 | 1, 1 | 27L << 35, 26L << 35};
        for (long name : bad) {
            c.argument(() -> x.addFolder(0, name));
        }
        c.due(6, x.addFolder(0, Checks.name("zzzzzzzz")));
        c.due(7, x.addFolder(0, 26));
        for (int i = 8; i < 40; i++) {
            c.due(i, x.addFolder(0, Checks.name("x") << 10 | i / 26 + 1 << 5 | i % 26 + 1));
        }
        c.state(() -> x.addFolder(0, Checks.name("yy")));
        c.argument(() -> x.addFolder(0, Checks.name("ann")));
        c.index(() -> x.addFolder(40, Checks.name("yy")));
        c.due(40, x.count(0));
    }

    private static void removeFolder() {
        c.begin("promise 11");
        QuotaTree x = Checks.tree("folder a root; folder b root; folder d root; folder e d; folder f b;"
                + "tag a 3; tag d 4; tag e 5; file e 7; file f 8;");
        c.state(() -> x.removeFolder(0));
        c.state(() -> x.removeFolder(2));
        c.state(() -> x.removeFolder(5));
        c.index(() -> x.removeFolder(6));
        c.index(() -> x.removeFolder(-1));
        c.due(5, x.removeFolder(1));
        c.due(NONE, x.find(1));
        c.due(1, x.find(2));
        c.due(2, x.folder(3, 0));
        c.due(1, x.folder(4, 0));
        c.due(0, x.folder(2, 0));
        c.due(4, x.folder(2, 1));
        c.due(3, x.file(0, 0));
        c.due(4, x.file(1, 0));
        c.due(2, x.count(6));
        c.due(5, x.addFolder(0, 1));
        c.due(NONE, x.folder(5, 1));
        QuotaTree y = new QuotaTree();
        c.state(() -> y.removeFolder(0));
        // a number beneath the removed folder's stays
        QuotaTree z = Checks.tree("folder a root; folder b root; file a 1; folder d b; ");
        z.moveFolder(1, 3);
        z.addFolder(0, 5);
        c.due(4, z.removeFolder(4));
        c.due(3, z.folder(1, 0));
        c.due(1, z.file(0, 0));
    }

    private static void tagReason() {
        c.begin("promise 12");
        QuotaTree x = Checks.tree(HOMES + "limit 3 1 10 0 2; limit 4 0 55 0 2; limit 5 0 0 0 1; limit 6 1 0 1 0;"
                + "folder six root; tag six 6; file six 2; file six 0;");
        c.due(0, x.tagReason(3, 1));
        c.due(0, x.tagReason(3, NONE));
        c.due(0, x.tagReason(0, NONE));
        c.due(1, x.tagReason(2, 3));
        c.due(1, x.tagReason(2, 4));
        c.due(2, x.tagReason(2, 5));
        c.due(0, x.tagReason(0, 4));
        c.due(0, x.tagReason(4, 5));
        x.tick(5);
        c.due(3, x.tagReason(2, 6));
        x.resize(2, 0);
        c.due(4, x.tagReason(3, 6));
        c.due(1, x.tagReason(4, 1));
        c.due(0, x.tagReason(4, 2));
        c.due(0, x.tagReason(2, NONE));
        c.due(1, x.tagReason(4, NONE));
        c.index(() -> x.tagReason(6, 8));
        c.index(() -> x.tagReason(-1, 0));
        c.argument(() -> x.tagReason(0, 8));
        c.argument(() -> x.tagReason(0, -2));
        // an empty open part never grows anything, whatever the state of the project
        QuotaTree y = Checks.tree("limit 0 1 1 1 1; tag root 0; file root 9; file root 9; folder a root;");
        y.tick(10);
        c.due(0, y.tagReason(1, 1));
        y.tag(1, 1);
        c.due(0, y.tagReason(1, 0));
        c.due(0, y.tagReason(1, NONE));
    }

    private static void tag() {
        c.begin("promise 13");
        QuotaTree x = Checks.tree(HOMES);
        c.due(0, x.tag(3, 1));
        c.due(1, x.folder(3, 1));
        c.due(90, x.used(1, 0));
        c.due(0, x.tag(3, NONE));
        c.due(2, x.tag(2, 2 + 1));
        c.due(0, x.used(1, 0));
        c.due(0, x.used(1, 1));
        c.due(90, x.used(3, 0));
        c.due(2, x.used(3, 1));
        c.due(120, x.used(2, 0));
        c.due(2, x.tag(2, NONE));
        c.due(0, x.used(3, 0));
        c.due(NONE, x.folder(2, 2));
        c.due(4, x.tag(0, 7));
        c.due(105, x.used(7, 0));
        c.due(4, x.used(7, 1));
        c.state(() -> x.tag(0, 1 + 1));
        c.due(7, x.folder(0, 1));
        c.due(105, x.used(7, 0));
        c.index(() -> x.tag(5, 9));
        c.argument(() -> x.tag(0, 9));
        c.argument(() -> x.tag(0, -2));
        // a loss never goes below 0
        QuotaTree y = Checks.tree("tag root 0; file root 9;");
        y.adjust(0, 0, -5);
        y.adjust(0, 1, -1);
        c.due(1, y.tag(0, 1));
        c.due(0, y.used(0, 0));
        c.due(0, y.used(0, 1));
        c.due(9, y.used(1, 0));
    }

    private static void moveReason() {
        c.begin("promise 14");
        QuotaTree x = Checks.tree(HOMES + "limit 6 1 0 1 0; folder six root; tag six 6; file six 2; file six 0;");
        c.due(5, x.moveReason(0, 0));
        c.due(5, x.moveReason(0, 3));
        c.due(5, x.moveReason(2, 2));
        c.due(5, x.moveReason(2, 4));
        c.due(0, x.moveReason(4, 0));
        c.due(0, x.moveReason(3, 4));
        x.write(3, 31);
        c.due(1, x.moveReason(3, 4));
        c.due(0, x.moveReason(3, 2));
        c.due(0, x.moveReason(3, 0));
        x.tick(5);
        c.due(3, x.moveReason(3, 5));
        x.resize(2, 0);
        x.resize(7, 0);
        c.due(4, x.moveReason(3, 5));
        x.setLimit(6, 1, 1, 3);
        c.due(2, x.moveReason(3, 5));
        c.due(0, x.moveReason(2, 5));
        c.index(() -> x.moveReason(6, 0));
        c.index(() -> x.moveReason(0, 6));
        c.index(() -> x.moveReason(0, -1));
        c.index(() -> x.moveReason(-1, 0));
    }

    private static void moveFolder() {
        c.begin("promise 15");
        QuotaTree x = Checks.tree(HOMES);
        c.state(() -> x.moveFolder(0, 1));
        c.state(() -> x.moveFolder(2, 3));
        c.index(() -> x.moveFolder(5, 0));
        c.index(() -> x.moveFolder(0, 5));
        c.due(0, x.moveFolder(3, 2));
        c.due(1, x.moveFolder(3, 4));
        c.due(4, x.folder(3, 0));
        c.due(170, x.used(2, 0));
        c.due(2, x.used(2, 1));
        c.due(40, x.used(1, 0));
        c.due(0, x.moveFolder(4, 0));
        c.due(170, x.used(2, 0));
        c.due(0, x.folder(4, 0));
        c.due(2, x.folder(4, 6));
        c.due(1, x.moveFolder(3, 1));
        c.due(NONE, x.folder(3, 2));
        c.due(120, x.used(2, 0));
        x.resize(0, 200);
        x.moveFolder(4, 0);
        x.write(1, 200);
        c.state(() -> x.moveFolder(1, 4));
        c.due(0, x.folder(1, 0));
        c.due(120, x.used(2, 0));
    }

    private static void file() {
        c.begin("promise 16");
        QuotaTree x = Checks.tree(HOMES);
        int[][] numbers = {{0, 10, -1}, {2, 40, 1}, {3, 50, 1}, {4, 120, 2}, {1, 5, -1}};
        for (int file = 0; file < 5; file++) {
            for (int what = 0; what < 3; what++) {
                c.due(numbers[file][what], x.file(file, what));
            }
        }
        c.index(() -> x.file(5, 3));
        c.index(() -> x.file(-1, 0));
        c.argument(() -> x.file(0, 3));
        c.argument(() -> x.file(0, -1));
    }

    private static void writeReason() {
        c.begin("promise 17");
        QuotaTree x = Checks.tree(HOMES);
        c.due(0, x.writeReason(3, 60));
        c.due(1, x.writeReason(3, 61));
        c.due(0, x.writeReason(0, 9999));
        c.due(0, x.writeReason(4, 80));
        c.due(1, x.writeReason(4, 81));
        x.setLimit(1, 1, 0, 2);
        c.due(1, x.writeReason(3, 61));
        c.due(2, x.writeReason(3, 60));
        c.due(2, x.writeReason(3, 0));
        x.setLimit(1, 1, 1, 3);
        x.setLimit(1, 0, 1, 150);
        c.due(0, x.writeReason(3, 1));
        x.tick(4);
        c.due(0, x.writeReason(3, 1));
        x.tick(1);
        c.due(1, x.writeReason(3, 61));
        c.due(3, x.writeReason(3, 1));
        c.due(4, x.writeReason(3, 0));
        x.setLimit(1, 1, 1, 2);
        c.due(2, x.writeReason(3, 1));
        c.index(() -> x.writeReason(5, -1));
        c.index(() -> x.writeReason(-1, 0));
        c.argument(() -> x.writeReason(0, -1));
        c.argument(() -> x.writeReason(0, 10000));
    }

    private static void write() {
        c.begin("promise 18");
        QuotaTree x = Checks.tree(HOMES);
        c.due(5, x.write(3, 60));
        c.due(3, x.file(5, 0));
        c.due(60, x.file(5, 1));
        c.due(150, x.used(1, 0));
        c.due(3, x.used(1, 1));
        c.state(() -> x.write(3, 1));
        c.due(6, x.count(1));
        c.due(6, x.write(3, 0));
        c.due(7, x.write(3, 0));
        c.state(() -> x.write(3, 0));
        c.index(() -> x.write(5, 10000));
        c.argument(() -> x.write(3, 10000));
        c.argument(() -> x.write(3, -1));
        for (int i = 8; i < 60; i++) {
            c.due(i, x.write(0, 9999));
        }
        c.state(() -> x.write(0, 0));
        c.due(0, x.writeReason(0, 0));
        c.argument(() -> x.write(0, -1));
        c.index(() -> x.write(-1, 0));
        c.due(60, x.count(1));
    }

    private static void room() {
        c.begin("promise 19");
        QuotaTree x = Checks.tree(HOMES + "limit 3 5 0 0 0;");
        c.due(60, x.room(3));
        c.due(80, x.room(4));
        c.due(9999, x.room(0));
        x.adjust(1, 0, 61);
        c.due(0, x.room(3));
        x.adjust(1, 0, -61);
        x.setLimit(1, 1, 0, 2);
        c.due(NONE, x.room(3));
        x.setLimit(1, 1, 0, 0);
        x.setLimit(1, 0, 80, 0);
        c.due(9999, x.room(3));
        x.tick(5);
        c.due(0, x.room(3));
        x.setLimit(1, 1, 1, 0);
        c.due(0, x.room(3));
        x.tick(5);
        c.due(NONE, x.room(3));
        x.setLimit(2, 0, 0, 99999);
        c.due(9999, x.room(4));
        x.setLimit(2, 0, 0, 10118);
        c.due(9998, x.room(4));
        c.index(() -> x.room(5));
        c.index(() -> x.room(-1));
    }

    private static void resize() {
        c.begin("promise 20");
        QuotaTree x = Checks.tree(HOMES);
        c.due(50, x.resize(2, 110));
        c.due(150, x.used(1, 0));
        c.due(2, x.used(1, 1));
        c.state(() -> x.resize(2, 111));
        c.due(110, x.file(2, 1));
        x.tick(5);
        c.due(110, x.resize(2, 110));
        c.due(110, x.resize(2, 109));
        c.state(() -> x.resize(2, 110));
        c.due(109, x.resize(2, 0));
        c.due(40, x.used(1, 0));
        c.due(0, x.resize(2, 110));
        x.resize(2, 0);
        // the number of files does not grow, so its limit refuses nothing
        x.setLimit(1, 1, 0, 1);
        c.due(0, x.resize(2, 5));
        x.adjust(1, 0, -43);
        c.due(40, x.resize(1, 0));
        c.due(0, x.used(1, 0));
        c.due(10, x.resize(0, 9999));
        c.index(() -> x.resize(5, -1));
        c.index(() -> x.resize(-1, 0));
        c.argument(() -> x.resize(0, -1));
        c.argument(() -> x.resize(0, 10000));
    }

    private static void delete() {
        c.begin("promise 21");
        QuotaTree x = Checks.tree(HOMES);
        c.due(4, x.delete(1));
        c.due(50, x.used(1, 0));
        c.due(1, x.used(1, 1));
        c.due(3, x.file(1, 0));
        c.due(50, x.file(1, 1));
        c.due(5, x.file(3, 1));
        c.index(() -> x.delete(4));
        c.index(() -> x.delete(-1));
        x.adjust(1, 0, -20);
        x.adjust(1, 1, -1);
        c.due(3, x.delete(1));
        c.due(0, x.used(1, 0));
        c.due(0, x.used(1, 1));
        c.due(2, x.delete(0));
        c.due(1, x.delete(1));
        c.due(0, x.delete(0));
        c.due(0, x.used(2, 0));
        c.index(() -> x.delete(0));
    }

    private static void moveFile() {
        c.begin("promise 22");
        QuotaTree x = Checks.tree(HOMES);
        c.due(0, x.moveFile(1, 3));
        c.due(3, x.file(1, 0));
        c.due(0, x.moveFile(1, 3));
        c.due(1, x.moveFile(1, 4));
        c.due(160, x.used(2, 0));
        c.due(2, x.used(2, 1));
        c.due(50, x.used(1, 0));
        c.due(1, x.used(1, 1));
        c.state(() -> x.moveFile(2, 4));
        c.due(3, x.file(2, 0));
        c.due(1, x.moveFile(2, 0));
        c.due(0, x.used(1, 0));
        c.due(0, x.moveFile(2, 1));
        x.setLimit(2, 1, 0, 2);
        x.resize(2, 0);
        c.state(() -> x.moveFile(2, 4));
        // within one project nothing is checked
        x.setLimit(2, 0, 0, 1);
        x.addFolder(4, 24);
        c.due(0, x.moveFile(1, 5));
        x.adjust(2, 0, -150);
        x.adjust(2, 1, -2);
        c.due(1, x.moveFile(1, 0));
        c.due(0, x.used(2, 0));
        c.due(0, x.used(2, 1));
        c.index(() -> x.moveFile(5, 0));
        c.index(() -> x.moveFile(0, 6));
        c.index(() -> x.moveFile(-1, 0));
        c.index(() -> x.moveFile(0, -1));
        QuotaTree y = Checks.tree("limit 1 1 0 1 0; folder a root; tag a 1; file a 2; file a 2; file root 1; file root 0;");
        y.tick(10);
        c.state(() -> y.moveFile(2, 1));
        c.state(() -> y.moveFile(3, 1));
        y.delete(1);
        c.state(() -> y.moveFile(1, 1));
        c.due(1, y.moveFile(2, 1));
    }

    private static void greatest() {
        c.begin("promise 23");
        QuotaTree x = Checks.tree(HOMES);
        c.due(2, x.greatest(1));
        x.resize(1, 50);
        c.due(1, x.greatest(1));
        c.due(3, x.greatest(2));
        c.element(() -> x.greatest(0));
        x.resize(3, 0);
        c.due(3, x.greatest(2));
        x.adjust(1, 1, -2);
        c.due(1, x.greatest(1));
        c.argument(() -> x.greatest(-1));
        c.argument(() -> x.greatest(8));
    }

    private static void accountArguments(AccountCall call) {
        c.argument(() -> call.run(-1, 0));
        c.argument(() -> call.run(8, 0));
        c.argument(() -> call.run(0, -1));
        c.argument(() -> call.run(0, 2));
    }

    interface AccountCall {
        long run(int project, int kind);
    }

    private static void used() {
        c.begin("promise 24");
        QuotaTree x = Checks.tree(HOMES);
        c.due(90, x.used(1, 0));
        c.due(2, x.used(1, 1));
        c.due(0, x.used(7, 0));
        x.adjust(1, 0, 3);
        c.due(93, x.used(1, 0));
        accountArguments((project, kind) -> x.used(project, kind));
    }

    private static void counted() {
        c.begin("promise 25");
        QuotaTree x = Checks.tree(HOMES);
        x.adjust(1, 0, 3);
        x.adjust(1, 1, 3);
        c.due(90, x.counted(1, 0));
        c.due(2, x.counted(1, 1));
        c.due(120, x.counted(2, 0));
        c.due(0, x.counted(0, 1));
        accountArguments((project, kind) -> x.counted(project, kind));
    }

    private static void limit() {
        c.begin("promise 26");
        QuotaTree x = Checks.tree(HOMES);
        c.due(100, x.limit(1, 0, false));
        c.due(150, x.limit(1, 0, true));
        c.due(3, x.limit(1, 1, false));
        c.due(5, x.limit(1, 1, true));
        c.due(NONE, x.limit(2, 0, false));
        c.due(200, x.limit(2, 0, true));
        c.due(NONE, x.limit(0, 1, true));
        x.gift(2, 1, 30, 5);
        x.gift(1, 2, 10, 5);
        c.due(120, x.limit(1, 0, false));
        c.due(170, x.limit(1, 0, true));
        c.due(5, x.limit(1, 1, true));
        c.due(180, x.limit(2, 0, true));
        c.due(NONE, x.limit(2, 0, false));
        x.setLimit(2, 0, 5, 10);
        c.due(0, x.limit(2, 0, true));
        c.due(0, x.limit(2, 0, false));
        accountArguments((project, kind) -> x.limit(project, kind, true));
        accountArguments((project, kind) -> x.limit(project, kind, false));
    }

    private static void setLimit() {
        c.begin("promise 27");
        QuotaTree x = Checks.tree(HOMES);
        c.due(1, x.setLimit(1, 0, 90, 90));
        c.due(2, x.setLimit(1, 0, 89, 90));
        c.due(4, x.setLimit(1, 0, 89, 89));
        c.due(0, x.setLimit(1, 0, 0, 0));
        c.due(2, x.setLimit(1, 0, 1, 0));
        c.due(1, x.setLimit(1, 1, 99999, 99999));
        c.due(99999, x.limit(1, 1, false));
        x.tick(5);
        c.due(3, x.setLimit(1, 0, 2, 0));
        c.due(1, x.setLimit(1, 0, 0, 150));
        x.gift(2, 1, 1, 1);
        c.state(() -> x.setLimit(1, 0, 0, 0));
        c.state(() -> x.setLimit(2, 0, 1, 0));
        c.due(0, x.setLimit(1, 1, 0, 0));
        c.due(0, x.setLimit(0, 0, 0, 0));
        c.due(4, x.setLimit(1, 0, 0, 1));
        x.tick(1);
        c.due(0, x.setLimit(1, 0, 0, 0));
        accountArguments((project, kind) -> x.setLimit(project, kind, 1, 2));
        c.argument(() -> x.setLimit(0, 0, -1, 0));
        c.argument(() -> x.setLimit(0, 0, 100000, 0));
        c.argument(() -> x.setLimit(0, 0, 0, -1));
        c.argument(() -> x.setLimit(0, 0, 0, 100000));
        c.argument(() -> x.setLimit(0, 1, 9, 8));
        c.argument(() -> x.setLimit(2, 0, -1, 0));
    }

    private static void state() {
        c.begin("promise 28");
        QuotaTree x = Checks.tree("limit 0 10 20 0 0; limit 1 0 0 1 0; tag root 0; file root 10; folder a root; tag a 1; file a 1; file a 1;");
        c.due(1, x.state(0, 0));
        c.due(0, x.state(0, 1));
        c.due(0, x.state(1, 0));
        c.due(2, x.state(1, 1));
        c.due(0, x.state(7, 1));
        x.resize(0, 11);
        c.due(2, x.state(0, 0));
        x.tick(9);
        c.due(2, x.state(0, 0));
        x.tick(1);
        c.due(3, x.state(0, 0));
        c.due(3, x.state(1, 1));
        x.adjust(0, 0, 10);
        c.due(4, x.state(0, 0));
        x.adjust(0, 0, -1);
        c.due(3, x.state(0, 0));
        x.resize(0, 0);
        c.due(1, x.state(0, 0));
        accountArguments((project, kind) -> x.state(project, kind));
    }

    private static void graceLeft() {
        c.begin("promise 29");
        QuotaTree x = Checks.tree(HOMES);
        c.due(NONE, x.graceLeft(1, 0));
        x.tick(2);
        x.resize(1, 60);
        c.due(5, x.graceLeft(1, 0));
        x.tick(2);
        x.resize(1, 70);
        c.due(3, x.graceLeft(1, 0));
        c.due(NONE, x.graceLeft(1, 1));
        x.tick(3);
        c.due(0, x.graceLeft(1, 0));
        x.tick(3);
        c.due(0, x.graceLeft(1, 0));
        x.resize(1, 50);
        c.due(NONE, x.graceLeft(1, 0));
        // a clock that a gift's end starts begins at the time after the whole tick
        x.gift(2, 1, 50, 1);
        x.resize(1, 60);
        c.due(NONE, x.graceLeft(1, 0));
        x.tick(9);
        c.due(5, x.graceLeft(1, 0));
        accountArguments((project, kind) -> x.graceLeft(project, kind));
    }

    private static void setGrace() {
        c.begin("promise 30");
        QuotaTree x = Checks.tree(HOMES);
        x.resize(1, 60);
        c.due(5, x.setGrace(99));
        c.due(99, x.count(4));
        c.due(99, x.graceLeft(1, 0));
        x.tick(3);
        c.due(99, x.setGrace(1));
        c.due(0, x.graceLeft(1, 0));
        c.due(3, x.state(1, 0));
        c.due(1, x.setGrace(4));
        c.due(1, x.graceLeft(1, 0));
        c.argument(() -> x.setGrace(0));
        c.argument(() -> x.setGrace(100));
        c.due(4, x.count(4));
    }

    private static void tick() {
        c.begin("promise 31");
        QuotaTree x = Checks.tree(HOMES);
        x.gift(2, 1, 1, 5);
        x.gift(2, 1, 2, 7);
        x.gift(2, 1, 3, 5);
        x.gift(2, 1, 4, 6);
        c.due(0, x.tick(4));
        c.due(2, x.tick(1));
        c.due(2, x.count(5));
        c.due(2, x.giftOf(0, 2));
        c.due(4, x.giftOf(1, 2));
        c.due(2, x.tick(999));
        c.due(1004, x.count(3));
        for (int i = 0; i < 9; i++) {
            x.tick(999);
        }
        c.due(9995, x.count(3));
        c.state(() -> x.tick(5));
        c.due(0, x.tick(4));
        c.state(() -> x.tick(1));
        c.argument(() -> x.tick(1000));
        c.argument(() -> x.tick(0));
        c.argument(() -> x.tick(-1));
        c.due(9999, x.count(3));
    }

    private static void nextEvent() {
        c.begin("promise 32");
        QuotaTree x = Checks.tree(HOMES);
        c.due(NONE, x.nextEvent());
        x.gift(2, 1, 1, 9);
        c.due(9, x.nextEvent());
        x.gift(2, 1, 1, 3);
        c.due(3, x.nextEvent());
        x.tick(3);
        c.due(9, x.nextEvent());
        x.resize(1, 60);
        c.due(8, x.nextEvent());
        x.write(3, 0);
        x.write(3, 0);
        c.due(8, x.nextEvent());
        x.tick(5);
        c.due(9, x.nextEvent());
        x.setGrace(7);
        c.due(9, x.nextEvent());
        x.endGift(0);
        c.due(10, x.nextEvent());
        x.tick(3);
        c.due(NONE, x.nextEvent());
    }

    private static void share() {
        c.begin("promise 33");
        QuotaTree x = Checks.tree(HOMES);
        same(90f / 150f, x.share(1, 0));
        same(2f / 5f, x.share(1, 1));
        same(120f / 200f, x.share(2, 0));
        x.gift(2, 1, 50, 5);
        same(90f / 200f, x.share(1, 0));
        x.setLimit(2, 0, 0, 51);
        same(120f, x.share(2, 0));
        x.setLimit(2, 0, 0, 50);
        c.element(() -> (long) x.share(2, 0));
        c.element(() -> (long) x.share(3, 0));
        c.element(() -> (long) x.share(2, 1));
        x.setLimit(3, 0, 0, 5);
        same(0f, x.share(3, 0));
        x.setLimit(3, 0, 5, 0);
        c.element(() -> (long) x.share(3, 0));
        accountArguments((project, kind) -> (long) x.share(project, kind));
    }

    private static void same(float due, float got) {
        c.due(Float.floatToRawIntBits(due), Float.floatToRawIntBits(got));
    }

    private static void gift() {
        c.begin("promise 34");
        QuotaTree x = Checks.tree(HOMES + "limit 3 5 0 0 9;");
        c.due(0, x.gift(2, 1, 80, 10));
        c.state(() -> x.gift(2, 1, 1, 1));
        c.due(1, x.gift(1, 2, 140, 1));
        c.state(() -> x.gift(1, 2, 1, 1));
        x.tick(1);
        c.state(() -> x.gift(1, 3, 1, 1));
        c.state(() -> x.gift(3, 1, 1, 1));
        c.argument(() -> x.gift(1, 1, 1, 1));
        c.argument(() -> x.gift(3, 3, 1, 1));
        c.argument(() -> x.gift(-1, 1, 1, 1));
        c.argument(() -> x.gift(8, 1, 1, 1));
        c.argument(() -> x.gift(1, -1, 1, 1));
        c.argument(() -> x.gift(1, 8, 1, 1));
        c.argument(() -> x.gift(1, 2, 0, 1));
        c.argument(() -> x.gift(1, 2, 10000, 1));
        c.argument(() -> x.gift(1, 2, 1, 0));
        c.argument(() -> x.gift(1, 2, 1, 1000));
        x.setLimit(4, 0, 0, 99999);
        c.due(1, x.gift(4, 1, 9999, 999));
        for (int i = 2; i < 12; i++) {
            c.due(i, x.gift(4, 1, 1, 2));
        }
        c.state(() -> x.gift(4, 1, 1, 1));
        c.due(12, x.count(5));
        // the gift of the giver takes from its soft limit, too, and starts its clock
        QuotaTree y = Checks.tree("limit 0 10 20 0 0; limit 1 1 1 0 0; tag root 0; file root 8;");
        y.gift(0, 1, 3, 1);
        c.due(2, y.state(0, 0));
        c.due(10, y.graceLeft(0, 0));
        y.tick(1);
        c.due(1, y.state(0, 0));
        // a project over its limit has less than nothing to give
        y.setLimit(0, 0, 0, 7);
        c.state(() -> y.gift(0, 1, 1, 1));
    }

    private static void giftOf() {
        c.begin("promise 35");
        QuotaTree x = Checks.tree(HOMES);
        x.tick(4);
        x.gift(2, 1, 30, 10);
        x.gift(1, 2, 20, 3);
        int[][] numbers = {{2, 1, 30, 14}, {1, 2, 20, 7}};
        for (int gift = 0; gift < 2; gift++) {
            for (int what = 0; what < 4; what++) {
                c.due(numbers[gift][what], x.giftOf(gift, what));
            }
        }
        c.index(() -> x.giftOf(2, 4));
        c.index(() -> x.giftOf(-1, 0));
        c.argument(() -> x.giftOf(1, 4));
        c.argument(() -> x.giftOf(0, -1));
    }

    private static void endGift() {
        c.begin("promise 36");
        QuotaTree x = Checks.tree(HOMES);
        x.gift(2, 1, 30, 10);
        x.gift(2, 1, 20, 3);
        x.gift(1, 2, 10, 5);
        x.resize(1, 61);
        c.due(NONE, x.graceLeft(1, 0));
        x.tick(1);
        c.index(() -> x.endGift(3));
        c.index(() -> x.endGift(-1));
        c.due(2, x.endGift(0));
        c.due(20, x.giftOf(0, 2));
        c.due(10, x.giftOf(1, 2));
        c.due(160, x.limit(1, 0, true));
        c.due(2, x.state(1, 0));
        c.due(5, x.graceLeft(1, 0));
        c.due(1, x.endGift(1));
        c.due(170, x.limit(1, 0, true));
        c.due(1, x.state(1, 0));
        c.due(0, x.endGift(0));
        c.due(2, x.state(1, 0));
        c.index(() -> x.endGift(0));
        c.due(150, x.limit(1, 0, true));
    }

    private static void adjust() {
        c.begin("promise 37");
        QuotaTree x = Checks.tree(HOMES);
        c.due(95, x.adjust(1, 0, 5));
        c.due(95, x.used(1, 0));
        c.due(0, x.adjust(1, 0, -95));
        c.state(() -> x.adjust(1, 0, -1));
        c.due(9999, x.adjust(1, 0, 9999));
        c.due(4, x.state(1, 0));
        c.due(5, x.graceLeft(1, 0));
        c.due(2, x.adjust(1, 1, 0));
        accountArguments((project, kind) -> x.adjust(project, kind, 1));
        c.argument(() -> x.adjust(0, 0, 10000));
        c.argument(() -> x.adjust(0, 0, -10000));
        for (int i = 1; i <= 100; i++) {
            c.due(9999 * i, x.adjust(5, 1, 9999));
        }
        c.state(() -> x.adjust(5, 1, 100));
        c.due(999999, x.adjust(5, 1, 99));
        c.state(() -> x.adjust(5, 1, 1));
        x.tag(0, 5);
        c.due(1000001, x.used(5, 1));
        c.state(() -> x.adjust(5, 1, -1));
        c.due(999999, x.adjust(5, 1, -2));
    }

    private static void repair() {
        c.begin("promise 38");
        QuotaTree x = Checks.tree(HOMES);
        c.due(0, x.repair());
        x.adjust(1, 0, 5);
        x.adjust(1, 1, 2);
        x.adjust(2, 0, -1);
        x.adjust(7, 1, 9);
        c.due(2, x.state(1, 1));
        c.due(4, x.repair());
        c.due(90, x.used(1, 0));
        c.due(2, x.used(1, 1));
        c.due(120, x.used(2, 0));
        c.due(0, x.used(7, 1));
        c.due(1, x.state(1, 1));
        c.due(NONE, x.graceLeft(1, 1));
        c.due(0, x.repair());
    }

    private static void writePath() {
        c.begin("promise 39");
        QuotaTree x = Checks.tree(HOMES + "folder abcdefgh bob;");
        c.due("root", Checks.written(x, x.writePath(0)));
        c.due("root/usr", Checks.written(x, x.writePath(1)));
        c.due("root/home/ann", Checks.written(x, x.writePath(3)));
        c.due("root/home/bob/abcdefgh", Checks.written(x, x.writePath(5)));
        c.due("root/home", Checks.written(x, x.writePath(2)));
        c.index(() -> x.writtenByte(9));
        c.index(() -> x.writePath(6));
        c.index(() -> x.writePath(-1));
        c.due('e', x.writtenByte(8));
        QuotaTree deep = new QuotaTree();
        for (int i = 0; i < 39; i++) {
            deep.addFolder(i, Checks.name("zzzzzzaa") + 32L * (i % 26) + i / 26);
        }
        c.due(4 + 39 * 9, deep.writePath(39));
        c.due('n', deep.writtenByte(4 + 39 * 9 - 2) + 1);
    }

    private static void writeAccounts() {
        c.begin("promise 40");
        QuotaTree x = Checks.tree(HOMES);
        c.due("1: 90/150 2/5", Checks.written(x, x.writeAccounts(1)));
        c.due("2: 120/200 1/-", Checks.written(x, x.writeAccounts(2)));
        c.due("0: 0/- 0/-", Checks.written(x, x.writeAccounts(0)));
        x.adjust(1, 0, 11);
        x.adjust(1, 1, 4);
        c.due("1: 101/150+ 6/5!", Checks.written(x, x.writeAccounts(1)));
        x.tick(5);
        c.due("1: 101/150! 6/5!", Checks.written(x, x.writeAccounts(1)));
        x.gift(1, 2, 49, 1);
        c.due("1: 101/101! 6/5!", Checks.written(x, x.writeAccounts(1)));
        x.setLimit(1, 0, 0, 1);
        c.due("1: 101/0! 6/5!", Checks.written(x, x.writeAccounts(1)));
        x.setLimit(7, 1, 99999, 99999);
        x.adjust(7, 1, 9999);
        x.adjust(7, 0, 9009);
        c.due("7: 9009/- 9999/99999", Checks.written(x, x.writeAccounts(7)));
        c.argument(() -> x.writeAccounts(8));
        c.argument(() -> x.writeAccounts(-1));
        c.due('7', x.writtenByte(0));
    }

    private static void writtenByte() {
        c.begin("promise 41");
        QuotaTree x = new QuotaTree();
        c.index(() -> x.writtenByte(0));
        c.due(4, x.writePath(0));
        c.due('r', x.writtenByte(0));
        c.due('t', x.writtenByte(3));
        c.index(() -> x.writtenByte(4));
        c.index(() -> x.writtenByte(-1));
        x.writeAccounts(3);
        c.due('3', x.writtenByte(0));
        c.due(':', x.writtenByte(1));
        c.due(' ', x.writtenByte(2));
        c.due('-', x.writtenByte(9));
        c.index(() -> x.writtenByte(10));
        x.addFolder(0, 1);
        x.undo();
        c.due('3', x.writtenByte(0));
    }

    private static void undo() {
        c.begin("promise 42");
        QuotaTree x = new QuotaTree();
        c.state(() -> x.undo());
        for (int i = 1; i <= 11; i++) {
            x.setGrace(i + 10);
        }
        for (int i = 10; i >= 3; i--) {
            c.due(i - 3, x.undo());
            c.due(i + 10, x.count(4));
        }
        c.state(() -> x.undo());
        c.due(13, x.count(4));
        x.setGrace(50);
        c.due(0, x.undo());
        c.state(() -> x.undo());
        for (int i = 0; i < 5; i++) {
            x.setGrace(20 + i);
        }
        c.due(4, x.undo());
        c.due(3, x.undo());
        x.setGrace(60);
        x.setGrace(61);
        c.due(4, x.undo());
        c.due(3, x.undo());
        c.due(22, x.count(4));
        // time and clocks come back; a clock is not set anew
        QuotaTree y = Checks.tree(HOMES);
        y.resize(1, 60);
        y.tick(3);
        y.resize(1, 0);
        c.due(NONE, y.graceLeft(1, 0));
        c.due(3, y.undo());
        c.due(2, y.graceLeft(1, 0));
        c.due(2, y.undo());
        c.due(5, y.graceLeft(1, 0));
        c.due(0, y.count(3));
        y.tick(1);
        c.due(4, y.graceLeft(1, 0));
        // the text buffer stays, and the load is a change
        Checks.put(y, "grace 9;");
        c.due(2, y.undo());
        c.due(0, y.load(8));
        c.due(9, y.count(4));
        c.due(2, y.undo());
        c.argument(() -> y.load(1));
        c.due(5, y.count(0));
        c.due(1, y.undo());
        c.due(90, y.used(1, 0));
        c.due(0, y.undo());
        c.due(1, y.count(0));
        c.due(0, y.used(1, 0));
    }

    interface Change {
        long make(QuotaTree tree);
    }

    private static void clocksBehindEachChange() {
        c.begin("section 3, clocks");
        String text = "grace 4; limit 1 10 0 1 0; limit 2 50 0 9 0; folder a root; folder b root; folder d root;"
                + "tag a 1; tag b 2; file a 4; file b 7; file d 8;";
        QuotaTree x = Checks.tree(text);
        x.tick(3);
        c.due(1, x.moveFile(2, 1));
        clocks(x, 4, 4);
        x.tick(1);
        c.due(1, x.moveFile(2, 3));
        clocks(x, NONE, NONE);
        c.due(1, x.moveFolder(3, 1));
        clocks(x, 4, 4);
        x.tick(1);
        c.due(1, x.moveFolder(3, 0));
        clocks(x, NONE, NONE);
        c.due(1, x.tag(3, 1));
        clocks(x, 4, 4);
        x.tag(3, NONE);
        clocks(x, NONE, NONE);
        c.due(1, x.tag(2, 1));
        clocks(x, 4, 4);
        x.tick(1);
        c.due(1, x.tag(2, 2));
        clocks(x, NONE, NONE);
        c.due(3, x.write(1, 6));
        clocks(x, NONE, 4);
        x.tick(1);
        x.resize(3, 7);
        clocks(x, 4, 3);
        x.delete(0);
        clocks(x, NONE, NONE);
        x.adjust(1, 0, 4);
        clocks(x, 4, NONE);
        x.repair();
        clocks(x, NONE, NONE);
        x.setLimit(1, 0, 1, 0);
        clocks(x, 4, NONE);
        x.setLimit(1, 0, 0, 0);
        clocks(x, NONE, NONE);
    }

    private static void clocks(QuotaTree x, int blocks, int files) {
        c.due(blocks, x.graceLeft(1, 0));
        c.due(files, x.graceLeft(1, 1));
    }

    private static void undoOfEachChange() {
        c.begin("promise 42, each change");
        Change[] changes = {
            x -> x.load(0), x -> x.addFolder(0, 1), x -> x.removeFolder(5), x -> x.tag(2, 3),
            x -> x.tag(2, 1), x -> x.write(3, 9), x -> x.resize(2, 55), x -> x.resize(2, 50),
            x -> x.delete(1), x -> x.moveFile(3, 0), x -> x.moveFile(3, 4), x -> x.moveFolder(3, 4),
            x -> x.moveFolder(3, 2), x -> x.setLimit(1, 0, 1, 1), x -> x.setGrace(9),
            x -> x.setGrace(5), x -> x.gift(2, 1, 5, 5), x -> x.endGift(0), x -> x.tick(2),
            x -> x.tick(1), x -> x.adjust(1, 0, 1), x -> x.adjust(1, 0, 0), x -> x.repair()};
        for (int i = 0; i < changes.length; i++) {
            c.begin("promise 42, change " + i);
            String before = Observed.of(withGifts());
            QuotaTree x = withGifts();
            changes[i].make(x);
            c.due(5, x.undo());
            c.due(before, Observed.of(x));
        }
    }

    private static QuotaTree withGifts() {
        QuotaTree x = Checks.tree(HOMES + "folder empty root;");
        x.setLimit(3, 0, 0, 600);
        x.gift(2, 1, 7, 2);
        x.gift(1, 3, 4, 3);
        x.gift(3, 2, 2, 1);
        return x;
    }

    private static void noUndoOfOtherCalls() {
        c.begin("promise 42, other calls");
        QuotaTree x = Checks.tree(HOMES);
        Observed.of(x);
        x.writePath(3);
        x.writeAccounts(3);
        c.state(() -> x.write(3, 9999));
        c.state(() -> x.tag(4, 1));
        c.state(() -> x.moveFolder(0, 1));
        c.state(() -> x.adjust(1, 0, -91));
        c.argument(() -> x.tick(0));
        c.argument(() -> x.setGrace(0));
        c.due(SYNTAX, Checks.load(x, "x"));
        c.due(0, x.undo());
        c.due(1, x.count(0));
    }
}
