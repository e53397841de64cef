import java.util.ArrayList;
import java.util.List;

/** Sections 6 (changes and undo) and 7 (exceptions) of the document: each sentence that names a boundary case. */
public final class EdgesOfChangesTest {

    private static final Edges e = new Edges();
    private static final Checks c = e.checks;
    private static final int NONE = QuotaTree.NONE;

    /** Something of everything: projects at and over limits, running clocks, folders in folders. */
    private static final String RICH = "grace 5;limit 1 10 20 2 3;limit 2 0 50 0 0;limit 3 1 0 1 0;folder a root;"
            + "folder b a;folder d root;folder f root;tag a 1;tag b 2;tag d 3;file a 12;file a 1;file b 7;file d 9;file root 4;";

    interface Change {
        long make(QuotaTree tree);
    }

    public static void main(String[] args) {
        e.part("What it is");
        calls();
        e.part("Description");
        changes();
        notChanges();
        latest();
        everythingAsBefore();
        notBroughtBack();
        changesNothing();
        firstNamed();
        indices();
        projectsAndKinds();
        e.close("EdgesOfChangesTest");
    }

    /** After 9 calls of changes: two gifts, time 3, clocks that began at different times. */
    private static QuotaTree rich() {
        QuotaTree x = Checks.tree(RICH);
        x.gift(2, 1, 5, 4);
        x.tick(2);
        x.write(1, 4);
        x.gift(1, 2, 3, 9);
        x.tick(1);
        x.adjust(2, 0, 2);
        return x;
    }

    private static void calls() {
        String sentence = "An object is used for at most 512 calls after it has been made;";
        e.edge(sentence, "512 changes", () -> {
            QuotaTree x = new QuotaTree();
            for (int i = 1; i <= 512; i++) {
                c.due(i == 1 ? 10 : (i - 1) % 99 + 1, x.setGrace(i % 99 + 1));
            }
        });
        e.edge(sentence, "changes and their undoing up to the 512th call", () -> {
            QuotaTree x = new QuotaTree();
            for (int i = 1; i <= 248; i++) {
                c.due(10, x.setGrace(i % 99 + 1));
                c.due(0, x.undo());
            }
            for (int i = 1; i <= 8; i++) {
                x.tick(1);
            }
            for (int i = 7; i >= 0; i--) {
                c.due(i, x.undo());
            }
        });
        e.edge(sentence, "512 calls that are refused", () -> {
            QuotaTree x = new QuotaTree();
            for (int i = 1; i <= 511; i++) {
                c.state(() -> x.undo());
            }
            c.due(0, x.repair());
        });
    }

    private static void changes() {
        String all = "The changes are all calls of load, addFolder, removeFolder, tag, write, resize, delete, moveFile, moveFolder,"
                + " setLimit, setGrace, gift, endGift, tick, adjust and repair that succeed (a text with an error is no change).";
        change(all, "load", x -> x.load(0));
        change(all, "addFolder", x -> x.addFolder(2, Checks.name("new")));
        change(all, "removeFolder", x -> x.removeFolder(4));
        change(all, "tag", x -> x.tag(4, 3));
        change(all, "tag: no tag", x -> x.tag(3, NONE));
        change(all, "tag: the same", x -> x.tag(1, 1));
        change(all, "write", x -> x.write(4, 9999));
        change(all, "resize", x -> x.resize(0, 0));
        change(all, "resize: the same", x -> x.resize(0, 12));
        change(all, "delete", x -> x.delete(0));
        change(all, "moveFile", x -> x.moveFile(0, 2));
        change(all, "moveFile: the same folder", x -> x.moveFile(0, 1));
        change(all, "moveFolder", x -> x.moveFolder(2, 0));
        change(all, "moveFolder: the same parent", x -> x.moveFolder(2, 1));
        change(all, "setLimit", x -> x.setLimit(1, 0, 30, 40));
        change(all, "setLimit: the same", x -> x.setLimit(2, 0, 0, 50));
        change(all, "setGrace", x -> x.setGrace(1));
        change(all, "setGrace: the same", x -> x.setGrace(5));
        change(all, "gift", x -> x.gift(2, 1, 9, 1));
        change(all, "endGift", x -> x.endGift(0));
        change(all, "tick", x -> x.tick(1));
        change(all, "tick: to the end of all gifts", x -> x.tick(999));
        change(all, "adjust", x -> x.adjust(1, 0, -17));
        change(all, "adjust by 0", x -> x.adjust(1, 0, 0));
        change(all, "repair", x -> x.repair());
        e.edge(all, "a text with an error", () -> {
            QuotaTree x = rich();
            String before = Observed.of(rich());
            c.due(QuotaTree.VALUE_ERROR, Checks.load(x, "folder x root;grace 0;"));
            c.due(before, Observed.of(x));
            c.due(6, x.undo());
        });
        e.edge(all, "repair without a fault", () -> {
            QuotaTree x = new QuotaTree();
            c.due(0, x.repair());
            c.due(0, x.undo());
            c.state(() -> x.undo());
        });
    }

    /** It counts as one change, and undoing it brings back all that can be asked. */
    private static void change(String sentence, String which, Change change) {
        e.edge(sentence, which, () -> {
            QuotaTree x = rich();
            change.make(x);
            c.due(7, x.undo());
            c.due(Observed.of(rich()), Observed.of(x));
        });
    }

    private static void notChanges() {
        String all = "The changes are all calls of load, addFolder, removeFolder, tag, write, resize, delete, moveFile, moveFolder,"
                + " setLimit, setGrace, gift, endGift, tick, adjust and repair that succeed (a text with an error is no change).";
        e.edge(all, "not those that only tell something", () -> {
            QuotaTree x = new QuotaTree();
            x.setGrace(7);
            Observed.of(x);
            x.errorPosition();
            x.find(1);
            x.tagReason(0, 1);
            x.moveReason(0, 0);
            x.writeReason(0, 1);
            x.writePath(0);
            x.writeAccounts(0);
            x.writtenByte(0);
            x.append(0, 0, 0, 0, 0);
            c.due(0, x.undo());
            c.due(10, x.count(4));
        });
        e.edge(all, "not undo", () -> {
            QuotaTree x = new QuotaTree();
            x.setGrace(7);
            x.undo();
            c.state(() -> x.undo());
            c.due(10, x.count(4));
        });
        e.edge(all, "not those that do not succeed", () -> {
            for (Change each : refused()) {
                QuotaTree x = rich();
                c.due(true, throwsSomething(each, x));
                c.due(6, x.undo());
            }
        });
    }

    private static boolean throwsSomething(Change change, QuotaTree x) {
        return Checks.answer(() -> change.make(x)).startsWith("throws.");
    }

    private static void latest() {
        String sentence = "The latest 8 changes can be undone, older ones cannot any more;";
        for (int made = 7; made <= 17; made++) {
            int changes = made;
            e.edge(sentence, changes + " changes", () -> {
                QuotaTree x = new QuotaTree();
                for (int i = 1; i <= changes; i++) {
                    x.setGrace(20 + i);
                }
                int can = Math.min(changes, 8);
                for (int i = 1; i <= can; i++) {
                    c.due(can - i, x.undo());
                    c.due(changes == i ? 10 : 20 + changes - i, x.count(4));
                }
                c.state(() -> x.undo());
                c.due(changes == can ? 10 : 20 + changes - can, x.count(4));
            });
        }
        e.edge(sentence, "changes behind some that were undone", () -> {
            QuotaTree x = new QuotaTree();
            for (int i = 1; i <= 10; i++) {
                x.setGrace(20 + i);
            }
            c.due(7, x.undo());
            c.due(6, x.undo());
            c.due(5, x.undo());
            x.setGrace(50);
            c.due(5, x.undo());
            c.due(27, x.count(4));
            x.setGrace(60);
            x.setGrace(61);
            x.setGrace(62);
            x.setGrace(63);
            int[] due = {62, 61, 60, 27, 26, 25, 24, 23};
            for (int i = 0; i < 8; i++) {
                c.due(7 - i, x.undo());
                c.due(due[i], x.count(4));
            }
            c.state(() -> x.undo());
        });
        e.edge(sentence, "an older one does not come back when later ones are undone", () -> {
            QuotaTree x = new QuotaTree();
            for (int i = 1; i <= 9; i++) {
                x.setGrace(20 + i);
            }
            for (int i = 0; i < 8; i++) {
                x.undo();
            }
            c.state(() -> x.undo());
            x.tick(1);
            c.due(0, x.undo());
            c.state(() -> x.undo());
            c.due(21, x.count(4));
        });
    }

    private static void everythingAsBefore() {
        String sentence = "undoing a change brings back everything as it was before it, also the time and the clocks,";
        e.edge(sentence, "each of eight changes", () -> {
            List<String> before = new ArrayList<>();
            for (int made = 0; made < 8; made++) {
                before.add(Observed.of(eight(made)));
            }
            for (int left = 7; left >= 0; left--) {
                QuotaTree x = eight(8);
                for (int i = 7; i >= left; i--) {
                    x.undo();
                }
                c.due(before.get(left), Observed.of(x));
            }
        });
        e.edge(sentence, "the time", () -> {
            QuotaTree x = new QuotaTree();
            x.tick(7);
            x.tick(999);
            x.undo();
            c.due(7, x.count(3));
            x.undo();
            c.due(0, x.count(3));
        });
        e.edge(sentence, "a clock that stopped runs on from the time at which it had begun", () -> {
            QuotaTree x = Checks.tree("limit 1 5 0 0 0;tag root 1;file root 6;");
            x.tick(4);
            x.resize(0, 5);
            c.due(NONE, x.graceLeft(1, 0));
            x.undo();
            c.due(6, x.graceLeft(1, 0));
        });
        e.edge(sentence, "a clock that had begun stands still again", () -> {
            QuotaTree x = Checks.tree("limit 1 5 0 0 0;tag root 1;file root 5;");
            x.write(0, 1);
            x.undo();
            c.due(NONE, x.graceLeft(1, 0));
            c.due(1, x.state(1, 0));
        });
        e.edge(sentence, "gifts that ended", () -> {
            QuotaTree x = rich();
            x.tick(9);
            c.due(0, x.count(5));
            x.undo();
            c.due(2, x.count(5));
            c.due(4, x.giftOf(0, 3));
            c.due(11, x.giftOf(1, 3));
        });
        e.edge(sentence, "numbers of folders and files", () -> {
            QuotaTree x = rich();
            x.delete(0);
            x.delete(0);
            x.moveFile(0, 0);
            x.removeFolder(2);
            x.undo();
            x.undo();
            x.undo();
            x.undo();
            c.due(2, x.find(Checks.name("b")));
            c.due(12, x.file(0, 1));
            c.due(2, x.file(2, 0));
            c.due(3, x.file(3, 0));
        });
        e.edge(sentence, "a wrong account", () -> {
            QuotaTree x = rich();
            c.due(1, x.repair());
            x.undo();
            c.due(2 + 7, x.used(2, 0));
            c.due(7, x.counted(2, 0));
        });
        e.edge(sentence, "the tree that another one replaced", () -> {
            QuotaTree x = rich();
            x.append(0x20202020, 0x20202020, 0x20202020, 0x20202020, 0x20202020);
            x.load(20);
            c.due(1, x.count(0));
            x.undo();
            c.due(5, x.count(0));
            c.due(3, x.count(3));
            c.due(5, x.count(4));
            c.due(2, x.count(5));
        });
    }

    /** The first of eight changes, made on a tree of seven changes. */
    private static QuotaTree eight(int made) {
        Change[] changes = {x -> x.tick(3), x -> x.delete(1), x -> x.moveFolder(3, 2), x -> x.tag(2, 5),
            x -> x.setLimit(3, 1, 9, 9), x -> x.setGrace(3), x -> x.repair(), x -> x.endGift(0)};
        QuotaTree x = rich();
        for (int i = 0; i < made; i++) {
            changes[i].make(x);
        }
        return x;
    }

    private static void notBroughtBack() {
        String sentence = "but not the text buffer, the position of the error and the written text.";
        e.edge(sentence, "the text buffer", () -> {
            QuotaTree x = new QuotaTree();
            x.setGrace(7);
            Checks.put(x, "grace 9;");
            x.undo();
            c.due(40, x.append(0, 0, 0, 0, 0));
            c.due(0, x.load(8));
            c.due(9, x.count(4));
            x.undo();
            c.due(10, x.count(4));
            c.argument(() -> x.load(1));
            c.due(20, x.append(0, 0, 0, 0, 0));
        });
        e.edge(sentence, "the position of the error", () -> {
            QuotaTree x = new QuotaTree();
            x.setGrace(7);
            c.due(QuotaTree.SYNTAX_ERROR, Checks.load(x, "  x"));
            x.undo();
            c.due(2, x.errorPosition());
            x.load(0);
            c.due(NONE, x.errorPosition());
            x.undo();
            c.due(NONE, x.errorPosition());
        });
        e.edge(sentence, "the written text", () -> {
            QuotaTree x = new QuotaTree();
            x.writeAccounts(5);
            x.addFolder(0, Checks.name("abc"));
            c.due(8, x.writePath(1));
            x.undo();
            c.due('r', x.writtenByte(0));
            c.due('c', x.writtenByte(7));
            c.index(() -> x.writtenByte(8));
        });
    }

    /** Calls that a rich tree refuses, of every method that can throw. */
    private static Change[] refused() {
        return new Change[] {
            x -> x.load(-1), x -> x.load(1), x -> x.count(8), x -> x.folder(5, 0), x -> x.folder(0, 10),
            x -> x.walked(5), x -> x.heaviest(5), x -> x.heaviest(2), x -> x.addFolder(5, 1), x -> x.addFolder(0, 0),
            x -> x.addFolder(0, 1), x -> x.removeFolder(5), x -> x.removeFolder(0), x -> x.removeFolder(1),
            x -> x.removeFolder(3), x -> x.tagReason(5, 1), x -> x.tagReason(0, 8), x -> x.tag(5, 1), x -> x.tag(0, 8),
            x -> x.tag(2, 1), x -> x.moveReason(0, 5), x -> x.moveReason(5, 0), x -> x.moveFolder(5, 0),
            x -> x.moveFolder(0, 5), x -> x.moveFolder(0, 1), x -> x.moveFolder(1, 2), x -> x.file(6, 0),
            x -> x.file(0, 3), x -> x.writeReason(5, 0), x -> x.writeReason(0, 10000), x -> x.write(5, 0),
            x -> x.write(0, -1), x -> x.write(1, 9999), x -> x.write(2, 9999), x -> x.room(5), x -> x.resize(6, 0),
            x -> x.resize(0, 10000), x -> x.resize(0, 9999), x -> x.delete(6), x -> x.moveFile(6, 0),
            x -> x.moveFile(0, 5), x -> x.moveFile(2, 1), x -> x.greatest(8), x -> x.greatest(0), x -> x.used(8, 0),
            x -> x.counted(0, 2), x -> x.limit(8, 0, true), x -> x.setLimit(8, 0, 0, 0), x -> x.setLimit(1, 0, 5, 4),
            x -> x.setLimit(1, 0, 5, 0), x -> x.state(0, 2), x -> x.graceLeft(8, 0), x -> x.setGrace(0),
            x -> x.setGrace(100), x -> x.tick(0), x -> x.tick(1000), x -> (long) x.share(8, 0), x -> (long) x.share(0, 0),
            x -> x.gift(1, 1, 1, 1), x -> x.gift(1, 2, 9999, 1), x -> x.gift(1, 3, 1, 1), x -> x.giftOf(2, 0),
            x -> x.giftOf(0, 4), x -> x.endGift(2), x -> x.adjust(8, 0, 0), x -> x.adjust(1, 0, -9999),
            x -> x.adjust(1, 0, 10000), x -> x.writePath(5), x -> x.writeAccounts(8), x -> x.writtenByte(10)};
    }

    private static void changesNothing() {
        String nothing = "A method that throws an exception changes nothing.";
        e.edge(nothing, "of the tree", () -> {
            String before = Observed.of(rich());
            Change[] all = refused();
            for (int i = 0; i < all.length; i++) {
                QuotaTree x = rich();
                c.due(i + ": true", i + ": " + throwsSomething(all[i], x));
                c.due(i + ": " + before, i + ": " + Observed.of(x));
            }
        });
        e.edge(nothing, "of the text buffer, the position of the error and the written text", () -> {
            Change[] all = refused();
            for (int i = 2; i < all.length; i++) {
                QuotaTree x = rich();
                Checks.load(x, "  x");
                Checks.put(x, "grace 9;");
                x.writeAccounts(0);
                c.due(i + ": true", i + ": " + throwsSomething(all[i], x));
                c.due(2, x.errorPosition());
                c.due('-', x.writtenByte(9));
                c.index(() -> x.writtenByte(10));
                c.due(0, x.load(8));
                c.due(9, x.count(4));
            }
        });
        e.edge(nothing, "load", () -> {
            QuotaTree x = new QuotaTree();
            Checks.load(x, "  x");
            Checks.put(x, "grace 9;");
            c.argument(() -> x.load(-1));
            c.argument(() -> x.load(21));
            c.due(2, x.errorPosition());
            c.due(0, x.load(20));
            c.due(9, x.count(4));
        });
        e.edge(nothing, "append", () -> {
            QuotaTree x = new QuotaTree();
            Checks.put(x, "grace 9;" + " ".repeat(892));
            c.state(() -> x.append(0, 0, 0, 0, 0));
            c.due(0, x.load(900));
            c.due(9, x.count(4));
        });
        e.edge(nothing, "undo", () -> {
            QuotaTree x = rich();
            for (int i = 0; i < 7; i++) {
                x.undo();
            }
            c.state(() -> x.undo());
            c.due(Observed.of(new QuotaTree()), Observed.of(x));
        });
        e.edge(nothing, "tick at the end of time", () -> {
            QuotaTree x = new QuotaTree();
            for (int i = 0; i < 10; i++) {
                x.tick(999);
            }
            c.state(() -> x.tick(10));
            c.due(9990, x.count(3));
            c.due(7, x.undo());
            c.due(8991, x.count(3));
        });
    }

    private static void firstNamed() {
        String first = "If several exceptions apply, the one named first is thrown.";
        e.edge(first, "the index in front of the argument", () -> {
            QuotaTree x = rich();
            c.index(() -> x.folder(5, 10));
            c.index(() -> x.folder(-1, -1));
            c.index(() -> x.addFolder(5, 0));
            c.index(() -> x.addFolder(-1, 1));
            c.index(() -> x.tagReason(5, 8));
            c.index(() -> x.tag(5, 8));
            c.index(() -> x.file(6, 3));
            c.index(() -> x.writeReason(5, -1));
            c.index(() -> x.write(5, -1));
            c.index(() -> x.resize(6, -1));
            c.index(() -> x.giftOf(2, 4));
        });
        e.edge(first, "the index in front of the state", () -> {
            QuotaTree x = rich();
            c.index(() -> x.moveFolder(0, 5));
            c.index(() -> x.moveFile(2, 5));
            c.index(() -> x.moveFile(6, 1));
        });
        e.edge(first, "the index or the argument in front of 40 folders", () -> {
            QuotaTree x = Checks.tree(Edges.folders(39));
            c.index(() -> x.addFolder(40, Checks.name("zz")));
            c.argument(() -> x.addFolder(0, 0));
            c.argument(() -> x.addFolder(0, Checks.name("root")));
            c.state(() -> x.addFolder(0, Checks.name("zz")));
        });
        e.edge(first, "the index or the argument in front of 60 files", () -> {
            QuotaTree x = Checks.tree(Edges.files(60));
            c.index(() -> x.write(1, 0));
            c.argument(() -> x.write(0, 10000));
            c.state(() -> x.write(0, 9999));
        });
        e.edge(first, "the argument in front of what refuses", () -> {
            QuotaTree x = rich();
            c.argument(() -> x.tag(2, 8));
            c.argument(() -> x.write(1, 10000));
            c.argument(() -> x.resize(0, 10000));
            c.argument(() -> x.setLimit(1, 0, -1, 0));
            c.argument(() -> x.setLimit(1, 0, 100000, 0));
            c.argument(() -> x.gift(1, 1, 9999, 1));
            c.argument(() -> x.gift(0, 0, 1, 1));
            c.argument(() -> x.gift(0, 3, 0, 1));
            c.argument(() -> x.gift(0, 3, 1, 0));
            c.argument(() -> x.adjust(0, 0, -10000));
            c.argument(() -> x.adjust(8, 0, -1));
        });
        e.edge(first, "the argument in front of 12 gifts and of the end of time", () -> {
            QuotaTree x = Checks.tree("limit 1 0 50 0 0;limit 2 0 9 0 0;");
            for (int i = 0; i < 10; i++) {
                x.tick(999);
            }
            c.argument(() -> x.tick(1000));
            c.state(() -> x.tick(999));
            for (int i = 0; i < 12; i++) {
                x.gift(1, 2, 1, 1);
            }
            c.argument(() -> x.gift(1, 2, 1, 1000));
            c.state(() -> x.gift(1, 2, 1, 999));
        });
        e.edge(first, "the argument in front of the missing element", () -> {
            QuotaTree x = new QuotaTree();
            c.argument(() -> (long) x.share(0, 2));
            c.argument(() -> x.greatest(8));
            c.index(() -> x.heaviest(1));
            c.element(() -> x.heaviest(0));
        });
    }

    private static final int[] FAR = {-1, -2, Integer.MIN_VALUE, Integer.MAX_VALUE, 1 << 16, 256};

    private static void indices() {
        String index = "An IndexOutOfBoundsException is thrown if a folder, file, gift or other index does not exist;";
        e.edge(index, "a folder", () -> {
            QuotaTree x = rich();
            for (int i = 0; i <= FAR.length; i++) {
                int folder = i < FAR.length ? FAR[i] : 5;
                c.index(() -> x.folder(folder, 0));
                c.index(() -> x.heaviest(folder));
                c.index(() -> x.addFolder(folder, Checks.name("new")));
                c.index(() -> x.removeFolder(folder));
                c.index(() -> x.tagReason(folder, 0));
                c.index(() -> x.tag(folder, 0));
                c.index(() -> x.moveReason(folder, 0));
                c.index(() -> x.moveReason(3, folder));
                c.index(() -> x.moveFolder(folder, 0));
                c.index(() -> x.moveFolder(3, folder));
                c.index(() -> x.writeReason(folder, 0));
                c.index(() -> x.write(folder, 0));
                c.index(() -> x.room(folder));
                c.index(() -> x.moveFile(0, folder));
                c.index(() -> x.writePath(folder));
            }
        });
        e.edge(index, "a file", () -> {
            QuotaTree x = rich();
            for (int i = 0; i <= FAR.length; i++) {
                int file = i < FAR.length ? FAR[i] : 6;
                c.index(() -> x.file(file, 0));
                c.index(() -> x.resize(file, 0));
                c.index(() -> x.delete(file));
                c.index(() -> x.moveFile(file, 0));
            }
        });
        e.edge(index, "a gift", () -> {
            QuotaTree x = rich();
            for (int i = 0; i <= FAR.length; i++) {
                int gift = i < FAR.length ? FAR[i] : 2;
                c.index(() -> x.giftOf(gift, 0));
                c.index(() -> x.endGift(gift));
            }
        });
        e.edge(index, "a place in the walk, or a written byte", () -> {
            QuotaTree x = rich();
            x.writePath(0);
            for (int i = 0; i <= FAR.length; i++) {
                int place = i < FAR.length ? FAR[i] : 5;
                c.index(() -> x.walked(place));
                c.index(() -> x.writtenByte(place == 5 ? 4 : place));
            }
        });
        e.edge(index, "where there is none at all", () -> {
            QuotaTree x = new QuotaTree();
            c.index(() -> x.file(0, 0));
            c.index(() -> x.resize(0, 0));
            c.index(() -> x.delete(0));
            c.index(() -> x.moveFile(0, 0));
            c.index(() -> x.giftOf(0, 0));
            c.index(() -> x.endGift(0));
            c.index(() -> x.writtenByte(0));
        });
        e.edge(index, "one that was there before", () -> {
            QuotaTree x = rich();
            x.removeFolder(4);
            c.index(() -> x.folder(4, 0));
            x.delete(5);
            c.index(() -> x.file(5, 0));
            x.endGift(1);
            c.index(() -> x.giftOf(1, 0));
            x.load(0);
            c.index(() -> x.folder(1, 0));
            c.index(() -> x.file(0, 0));
            c.index(() -> x.giftOf(0, 0));
        });
    }

    private static void projectsAndKinds() {
        String numbers = "projects are 0 to 7, kinds 0 and 1.";
        e.edge(numbers, "those that are", () -> {
            QuotaTree x = rich();
            for (int project = 0; project < 8; project++) {
                for (int kind = 0; kind < 2; kind++) {
                    x.used(project, kind);
                    x.counted(project, kind);
                    x.limit(project, kind, false);
                    x.state(project, kind);
                    x.graceLeft(project, kind);
                    x.adjust(project, kind, 1);
                }
                x.writeAccounts(project);
                x.tagReason(0, project);
            }
        });
        e.edge(numbers, "those that are not", () -> {
            QuotaTree x = rich();
            for (int i = 0; i < 2 * FAR.length + 4; i++) {
                boolean ofProject = i % 2 == 0;
                int wrong = i / 2 < FAR.length ? FAR[i / 2] : ofProject ? 8 + i / 2 - FAR.length : 2 + i / 2 - FAR.length;
                int project = ofProject ? wrong : 1;
                int kind = ofProject ? 0 : wrong;
                c.argument(() -> x.used(project, kind));
                c.argument(() -> x.counted(project, kind));
                c.argument(() -> x.limit(project, kind, true));
                c.argument(() -> x.setLimit(project, kind, 1, 1));
                c.argument(() -> x.state(project, kind));
                c.argument(() -> x.graceLeft(project, kind));
                c.argument(() -> (long) x.share(project, kind));
                c.argument(() -> x.adjust(project, kind, 1));
            }
        });
        e.edge(numbers, "projects without a kind", () -> {
            QuotaTree x = rich();
            for (int i = 0; i <= FAR.length; i++) {
                int project = i < FAR.length ? FAR[i] : 8;
                c.argument(() -> x.greatest(project));
                c.argument(() -> x.writeAccounts(project));
                c.argument(() -> x.gift(project, 1, 1, 1));
                c.argument(() -> x.gift(1, project, 1, 1));
                if (project != NONE) {
                    c.argument(() -> x.tag(0, project));
                    c.argument(() -> x.tagReason(0, project));
                }
            }
        });
    }
}
