/** Sections 1 to 5 of the document: each sentence that names a boundary case, and its test. */
public final class EdgesOfSectionsTest {

    private static final Edges e = new Edges();
    private static final Checks c = e.checks;
    private static final int NONE = QuotaTree.NONE;

    /** Folder 1 has project 1, folder 2 project 2, folder 3 none. */
    private static final String THREE = "folder a root;folder b root;folder d root;tag a 1;tag b 2;";

    public static void main(String[] args) {
        e.part("Description");
        folders();
        files();
        projects();
        openParts();
        accounts();
        losses();
        limits();
        effectiveLimits();
        softLimits();
        time();
        clocks();
        graceOver();
        reasons();
        orderOfReasons();
        noProject();
        states();
        gifts();
        endsOfGifts();
        refusedGifts();
        movedFiles();
        movedFolders();
        tags();
        cannotMove();
        e.close("EdgesOfSectionsTest");
    }

    private static long name(String letters) {
        return Checks.name(letters);
    }

    private static QuotaTree tree(String text) {
        return Checks.tree(text);
    }

    private static void account(QuotaTree x, int project, int blocks, int files) {
        c.due(blocks, x.used(project, 0));
        c.due(files, x.used(project, 1));
    }

    // ---- section 1

    private static void folders() {
        String most = "There are at most 40 folders, numbered from 0;";
        e.edge(most, () -> {
            QuotaTree x = tree(Edges.folders(38));
            c.due(39, x.addFolder(0, name("zz")));
            c.due(40, x.count(0));
            c.state(() -> x.addFolder(0, name("zzz")));
            c.due(40, x.count(0));
            c.due(39, x.removeFolder(39));
            c.due(39, x.addFolder(0, name("zzz")));
        });
        e.edge(most, "in a path of 40", () -> {
            QuotaTree x = Edges.chain();
            c.due(39, x.folder(39, 5));
            c.due(40, x.folder(0, 6));
            c.due(1, x.folder(39, 6));
        });
        String root = "folder 0 is the root, which is always there and has the name root.";
        e.edge(root, "in a new object", () -> c.due(0, new QuotaTree().find(name("root"))));
        e.edge(root, "in a tree that was read", () -> {
            QuotaTree x = tree("");
            c.due(1, x.count(0));
            c.due(0, x.find(name("root")));
            c.due(0, tree("folder a root;").find(name("root")));
        });
        e.edge(root, "it cannot be removed", () -> c.state(() -> new QuotaTree().removeFolder(0)));
        e.edge(root, "it cannot be named anew", () -> c.argument(() -> new QuotaTree().addFolder(0, name("root"))));
        String names = "Each other folder has a parent and a name of 1 to 8 letters that no other folder has;";
        e.edge(names, "1 and 8 letters", () -> {
            QuotaTree x = new QuotaTree();
            c.due(1, x.addFolder(0, name("a")));
            c.due(2, x.addFolder(1, name("zzzzzzzz")));
            c.due(1, x.find(name("a")));
            c.due(2, x.find(name("zzzzzzzz")));
            c.due(1, x.folder(2, 0));
        });
        e.edge(names, "0 and 9 letters", () -> {
            QuotaTree x = new QuotaTree();
            c.argument(() -> x.addFolder(0, 0));
            c.argument(() -> x.addFolder(0, name("aaaaaaaaa")));
        });
        e.edge(names, "a folder elsewhere in the tree has it", () -> {
            QuotaTree x = tree("folder a root;folder b a;folder d b;");
            c.argument(() -> x.addFolder(0, name("d")));
            c.argument(() -> x.addFolder(3, name("a")));
        });
        e.edge(names, "the name of a removed folder is free", () -> {
            QuotaTree x = tree("folder a root;");
            x.removeFolder(1);
            c.due(1, x.addFolder(0, name("a")));
        });
        String children = "the children of a folder are those whose parent it is.";
        e.edge(children, "none, one, several, not their children", () -> {
            QuotaTree x = tree("folder a root;folder b a;folder d a;folder f d;");
            int[] numbers = {1, 2, 0, 1, 0};
            for (int i = 0; i < 5; i++) {
                c.due(numbers[i], x.folder(i, 3));
            }
        });
        String subtree = "The subtree of a folder are this folder and all below it.";
        e.edge(subtree, "a folder without children", () -> c.due(1, new QuotaTree().folder(0, 6)));
        e.edge(subtree, "children and those below them, no others", () -> {
            QuotaTree x = tree("folder a root;folder b a;folder d b;folder f root;file root 1;file a 2;file b 4;file d 8;file f 16;");
            int[][] due = {{5, 5, 31}, {3, 3, 14}, {2, 2, 12}, {1, 1, 8}, {1, 1, 16}};
            for (int i = 0; i < 5; i++) {
                for (int what = 6; what < 9; what++) {
                    c.due(due[i][what - 6], x.folder(i, what));
                }
            }
        });
    }

    private static void files() {
        String most = "There are at most 60 files, numbered from 0;";
        e.edge(most, () -> {
            QuotaTree x = tree(Edges.files(59));
            c.due(59, x.write(0, 3));
            c.due(60, x.count(1));
            c.due(3, x.file(59, 1));
            c.state(() -> x.write(0, 3));
            c.due(60, x.count(1));
            c.due(59, x.delete(0));
            c.due(59, x.write(0, 4));
        });
        String size = "each lies in a folder and has a size (0 to 9999 blocks).";
        e.edge(size, "0 and 9999", () -> {
            QuotaTree x = new QuotaTree();
            x.write(0, 0);
            x.write(0, 9999);
            c.due(0, x.file(0, 1));
            c.due(9999, x.file(1, 1));
            x.resize(0, 9999);
            x.resize(1, 0);
            c.due(9999, x.file(0, 1));
            c.due(0, x.file(1, 1));
        });
        e.edge(size, "-1 and 10000", () -> {
            QuotaTree x = tree("file root 1;");
            c.argument(() -> x.write(0, -1));
            c.argument(() -> x.write(0, 10000));
            c.argument(() -> x.resize(0, -1));
            c.argument(() -> x.resize(0, 10000));
        });
        e.edge(size, "60 files of the greatest size", () -> {
            QuotaTree x = tree("tag root 3;");
            for (int i = 0; i < 60; i++) {
                x.write(0, 9999);
            }
            c.due(599940, x.count(2));
            c.due(599940, x.used(3, 0));
            c.due(599940, x.counted(3, 0));
            c.due(599940, x.folder(0, 8));
        });
    }

    private static void projects() {
        String eight = "There are 8 projects, numbered from 0.";
        e.edge(eight, "the first and the last", () -> {
            QuotaTree x = tree("folder a root;tag a 0;tag root 7;file a 3;file root 4;");
            account(x, 0, 3, 1);
            account(x, 7, 4, 1);
        });
        e.edge(eight, "a ninth, and one in front of the first", () -> {
            QuotaTree x = new QuotaTree();
            c.argument(() -> x.used(8, 0));
            c.argument(() -> x.used(-1, 0));
            c.argument(() -> x.tag(0, 8));
            c.argument(() -> x.tag(0, -2));
        });
        String whose = "The project of a folder is that with which it is tagged, otherwise the project of its parent;";
        e.edge(whose, "its own tag, that of the next one above it, none between", () -> {
            QuotaTree x = tree("folder a root;folder b a;folder d b;folder f d;tag root 5;tag b 6;tag f 7;");
            int[] due = {5, 5, 6, 6, 7};
            for (int i = 0; i < 5; i++) {
                c.due(due[i], x.folder(i, 2));
            }
        });
        e.edge(whose, "through a path of 40", () -> {
            QuotaTree x = Edges.chain();
            x.tag(0, 4);
            c.due(4, x.folder(39, 2));
            x.write(39, 5);
            c.due(1, x.tag(38, 3));
            c.due(3, x.folder(39, 2));
            c.due(4, x.folder(37, 2));
        });
        e.edge("an untagged root has none (NONE).", () -> {
            QuotaTree x = tree("folder a root;");
            c.due(NONE, x.folder(0, 2));
            c.due(NONE, x.folder(1, 2));
            x.tag(0, 0);
            c.due(0, x.folder(0, 2));
            c.due(0, x.folder(1, 2));
            x.tag(0, NONE);
            c.due(NONE, x.folder(1, 2));
        });
        e.edge("The project of a file is that of its folder.", () -> {
            QuotaTree x = tree("folder a root;folder b a;tag a 0;file root 1;file b 1;");
            c.due(NONE, x.file(0, 2));
            c.due(0, x.file(1, 2));
        });
    }

    private static void openParts() {
        String open = "The open part of a folder are the files that lie directly in it, and those in its subtree for which"
                + " neither their folder nor a folder between that and this one is tagged"
                + " (whether this folder itself is tagged does not matter).";
        String text = "folder a root;folder b a;folder d b;file root 1;file a 1;file b 1;file d 1;";
        e.edge(open, "no tag", () -> openFiles(tree(text), 4, 3, 2, 1));
        e.edge(open, "its own tag", () -> openFiles(tree(text + "tag root 1;"), 4, 3, 2, 1));
        e.edge(open, "the tag of a file's folder", () -> openFiles(tree(text + "tag d 1;"), 3, 2, 1, 1));
        e.edge(open, "the tag of a folder between", () -> openFiles(tree(text + "tag a 1;"), 1, 3, 2, 1));
        e.edge(open, "a tag with the same project", () -> openFiles(tree(text + "tag root 1;tag b 1;"), 2, 1, 2, 1));
        e.edge(open, "project 0", () -> openFiles(tree(text + "tag b 0;"), 2, 1, 2, 1));
        e.edge(open, "no file", () -> openFiles(tree("folder a root;file a 1;tag a 2;"), 0, 1));
        e.edge(open, "files beside it do not belong to it", () -> openFiles(tree("folder a root;folder b root;file b 1;"), 1, 0, 1));
    }

    private static void openFiles(QuotaTree x, int... due) {
        for (int i = 0; i < due.length; i++) {
            c.due(due[i], x.folder(i, 9));
        }
    }

    // ---- section 2

    private static void accounts() {
        e.edge("Each project has an account of each kind, the used amount.", () -> {
            for (int project = 0; project < 8; project++) {
                QuotaTree x = tree("tag root " + project + ";file root 7;");
                x.write(0, 30);
                for (int other = 0; other < 8; other++) {
                    account(x, other, other == project ? 37 : 0, other == project ? 2 : 0);
                }
            }
        });
        e.edge("There are two kinds of accounts: 0 blocks (the sum of the sizes), 1 files (their number).", () -> {
            QuotaTree x = tree("tag root 1;file root 9999;file root 0;file root 5;");
            account(x, 1, 10004, 3);
        });
        String changes = "It changes with each change of files and projects by what really changes;";
        e.edge(changes, "files in an adjusted account", () -> {
            QuotaTree x = tree("tag root 1;file root 50;file root 9;");
            x.adjust(1, 0, 100);
            x.adjust(1, 1, 10);
            account(x, 1, 159, 12);
            x.write(0, 7);
            account(x, 1, 166, 13);
            x.resize(0, 80);
            account(x, 1, 196, 13);
            x.resize(0, 10);
            account(x, 1, 126, 13);
            x.delete(1);
            account(x, 1, 117, 12);
        });
        e.edge(changes, "projects of an adjusted account", () -> {
            QuotaTree x = tree(THREE + "file a 5;file d 7;");
            x.adjust(1, 0, 100);
            x.adjust(2, 1, 10);
            x.moveFile(0, 2);
            account(x, 1, 100, 0);
            account(x, 2, 5, 11);
            x.moveFolder(3, 1);
            account(x, 1, 107, 1);
            x.tag(2, 1);
            account(x, 1, 112, 2);
            account(x, 2, 0, 10);
        });
        e.edge(changes, "above what adjust can reach", () -> {
            QuotaTree x = tree("tag root 1;");
            for (int i = 0; i < 100; i++) {
                x.adjust(1, 0, 9999);
                x.adjust(1, 1, 9999);
            }
            x.adjust(1, 0, 99);
            x.adjust(1, 1, 99);
            account(x, 1, 999999, 999999);
            x.write(0, 9999);
            account(x, 1, 1009998, 1000000);
            x.delete(0);
            account(x, 1, 999999, 999999);
        });
        e.edge(changes, "a change to the same folder, size or tag", () -> {
            QuotaTree x = tree(THREE + "file a 5;");
            x.resize(0, 5);
            x.moveFile(0, 1);
            x.tag(1, 1);
            x.moveFolder(1, 0);
            account(x, 1, 5, 1);
        });
        e.edge("it is what can be counted anew as long as it was not adjusted.", () -> {
            QuotaTree x = tree(THREE + "file root 1;file a 20;file b 300;file d 4000;");
            x.write(1, 5);
            x.write(3, 7);
            x.resize(1, 90);
            x.resize(2, 0);
            x.moveFile(3, 2);
            x.moveFolder(3, 1);
            x.tag(2, NONE);
            x.tag(0, 3);
            x.delete(0);
            x.moveFolder(2, 3);
            for (int project = 0; project < 8; project++) {
                account(x, project, x.counted(project, 0), x.counted(project, 1));
            }
            c.due(0, x.repair());
        });
    }

    /** Folder 1 has project 1 with a file of 9 blocks, but its accounts tell of less. */
    private static QuotaTree tooLittle(int blocks, int files) {
        QuotaTree x = tree(THREE + "file a 9;");
        x.adjust(1, 0, blocks - 9);
        x.adjust(1, 1, files - 1);
        return x;
    }

    private static void losses() {
        String never = "A loss never brings it below 0.";
        e.edge(never, "delete", () -> {
            QuotaTree x = tooLittle(8, 0);
            x.delete(0);
            account(x, 1, 0, 0);
        });
        e.edge(never, "resize", () -> {
            QuotaTree x = tooLittle(8, 0);
            x.resize(0, 0);
            account(x, 1, 0, 0);
        });
        e.edge(never, "moveFile", () -> {
            QuotaTree x = tooLittle(8, 0);
            x.moveFile(0, 2);
            account(x, 1, 0, 0);
            account(x, 2, 9, 1);
        });
        e.edge(never, "tag", () -> {
            QuotaTree x = tooLittle(8, 0);
            x.tag(1, 2);
            account(x, 1, 0, 0);
            account(x, 2, 9, 1);
        });
        e.edge(never, "moveFolder", () -> {
            QuotaTree x = tooLittle(8, 0);
            x.addFolder(1, name("x"));
            x.moveFile(0, 4);
            x.moveFolder(4, 2);
            account(x, 1, 0, 0);
            account(x, 2, 9, 1);
        });
        e.edge(never, "to 0 and to 1", () -> {
            QuotaTree x = tooLittle(9, 1);
            x.delete(0);
            account(x, 1, 0, 0);
            QuotaTree y = tooLittle(10, 2);
            y.delete(0);
            account(y, 1, 1, 1);
        });
    }

    private static void limits() {
        String range = "Each project has a soft and a hard limit of each kind (0 to 99999; 0 means that there is no such limit).";
        e.edge(range, "0: none", () -> {
            QuotaTree x = tree("tag root 1;file root 5;");
            for (int kind = 0; kind < 2; kind++) {
                c.due(0, x.setLimit(1, kind, 0, 0));
                c.due(NONE, x.limit(1, kind, false));
                c.due(NONE, x.limit(1, kind, true));
            }
        });
        e.edge(range, "1 and 99999", () -> {
            QuotaTree x = new QuotaTree();
            for (int kind = 0; kind < 2; kind++) {
                x.setLimit(1, kind, 1, 99999);
                c.due(1, x.limit(1, kind, false));
                c.due(99999, x.limit(1, kind, true));
                x.setLimit(1, kind, 99999, 99999);
                c.due(99999, x.limit(1, kind, false));
            }
        });
        e.edge(range, "each project, each kind", () -> {
            for (int account = 0; account < 16; account++) {
                QuotaTree x = new QuotaTree();
                x.setLimit(account / 2, account % 2, 3, 4);
                for (int other = 0; other < 16; other++) {
                    c.due(other == account ? 3 : NONE, x.limit(other / 2, other % 2, false));
                    c.due(other == account ? 4 : NONE, x.limit(other / 2, other % 2, true));
                    c.due(other == account ? 1 : 0, x.state(other / 2, other % 2));
                }
            }
        });
        e.edge(range, "-1 and 100000", () -> {
            QuotaTree x = new QuotaTree();
            for (int kind = 0; kind < 2; kind++) {
                int each = kind;
                c.argument(() -> x.setLimit(1, each, -1, 0));
                c.argument(() -> x.setLimit(1, each, 0, -1));
                c.argument(() -> x.setLimit(1, each, 100000, 0));
                c.argument(() -> x.setLimit(1, each, 0, 100000));
            }
        });
        String both = "If both are above 0, the soft one is at most the hard one.";
        e.edge(both, "the same, less, greater", () -> {
            QuotaTree x = new QuotaTree();
            x.setLimit(1, 0, 7, 7);
            x.setLimit(1, 0, 6, 7);
            c.argument(() -> x.setLimit(1, 0, 8, 7));
            c.argument(() -> x.setLimit(1, 1, 99999, 99998));
            c.due(6, x.limit(1, 0, false));
        });
        e.edge(both, "one of them 0", () -> {
            QuotaTree x = new QuotaTree();
            c.due(1, x.setLimit(1, 0, 8, 0));
            c.due(1, x.setLimit(1, 0, 0, 1));
        });
    }

    private static void effectiveLimits() {
        String sum = "The effective limits of the kind 0 are these numbers plus the blocks of all gifts that the project has got,"
                + " minus those of all gifts that it has given, but at least 0.";
        String text = "limit 1 100 200 10 20;limit 2 300 400 0 0;limit 3 0 500 5 5;";
        e.edge(sum, "several gifts, to and from", () -> {
            QuotaTree x = tree(text);
            x.gift(1, 2, 10, 5);
            x.gift(1, 3, 20, 5);
            x.gift(2, 1, 3, 5);
            x.gift(3, 1, 4, 5);
            c.due(77, x.limit(1, 0, false));
            c.due(177, x.limit(1, 0, true));
            c.due(307, x.limit(2, 0, false));
            c.due(407, x.limit(2, 0, true));
            c.due(516, x.limit(3, 0, true));
        });
        e.edge(sum, "1, 0 and what would be below 0", () -> {
            QuotaTree x = tree(text);
            x.gift(1, 2, 99, 5);
            c.due(1, x.limit(1, 0, false));
            x.gift(1, 2, 1, 5);
            c.due(0, x.limit(1, 0, false));
            x.gift(1, 2, 1, 5);
            c.due(0, x.limit(1, 0, false));
            c.due(99, x.limit(1, 0, true));
            x.setLimit(1, 0, 101, 102);
            c.due(0, x.limit(1, 0, false));
            c.due(1, x.limit(1, 0, true));
            x.setLimit(1, 0, 1, 2);
            c.due(0, x.limit(1, 0, true));
        });
        e.edge(sum, "below 0 by gifts that were given, above it by one that was got", () -> {
            QuotaTree x = tree(text);
            x.gift(1, 2, 200, 5);
            x.setLimit(1, 0, 0, 50);
            x.gift(2, 1, 151, 5);
            c.due(1, x.limit(1, 0, true));
        });
        e.edge(sum, "twelve gifts of 9999", () -> {
            QuotaTree x = tree("limit 1 0 1 0 0;limit 2 99999 99999 0 0;limit 3 0 99999 0 0;");
            for (int i = 0; i < 12; i++) {
                x.gift(i < 6 ? 2 : 3, 1, 9999, 5);
            }
            c.due(1 + 12 * 9999, x.limit(1, 0, true));
            c.due(99999 - 6 * 9999, x.limit(2, 0, false));
        });
        e.edge("The effective limits of the kind 1 are these numbers.", () -> {
            QuotaTree x = tree(text);
            x.gift(1, 3, 200, 5);
            c.due(10, x.limit(1, 1, false));
            c.due(20, x.limit(1, 1, true));
            c.due(5, x.limit(3, 1, false));
            c.due(5, x.limit(3, 1, true));
        });
        String only = "(There is an effective limit if and only if the number that was set is above 0.)";
        e.edge(only, "a gift makes none", () -> {
            QuotaTree x = tree(text);
            x.gift(1, 3, 50, 5);
            c.due(NONE, x.limit(3, 0, false));
            c.due(NONE, x.limit(0, 0, true));
        });
        e.edge(only, "one of 0 is one", () -> {
            QuotaTree x = tree(text + "tag root 1;");
            x.gift(1, 3, 200, 5);
            c.due(0, x.limit(1, 0, true));
            c.due(1, x.state(1, 0));
            c.due(0, x.writeReason(0, 0));
            c.due(1, x.writeReason(0, 1));
            c.due(0, x.room(0));
        });
        e.edge(only, "set to 1", () -> {
            QuotaTree x = tree("limit 1 1 1 1 1;");
            for (int kind = 0; kind < 2; kind++) {
                c.due(1, x.limit(1, kind, false));
                c.due(1, x.limit(1, kind, true));
            }
        });
    }

    private static void softLimits() {
        String over = "A project is over its soft limit for a kind if there is one and the used amount is greater than the effective soft limit.";
        e.edge(over, "at it, and above it by 1, blocks", () -> {
            QuotaTree x = tree("limit 1 9 0 0 0;tag root 1;file root 9;");
            c.due(NONE, x.graceLeft(1, 0));
            x.resize(0, 10);
            c.due(10, x.graceLeft(1, 0));
            c.due(NONE, x.graceLeft(1, 1));
        });
        e.edge(over, "at it, and above it by 1, files", () -> {
            QuotaTree x = tree("limit 1 0 0 1 0;tag root 1;file root 9;");
            c.due(NONE, x.graceLeft(1, 1));
            x.write(0, 0);
            c.due(10, x.graceLeft(1, 1));
            c.due(NONE, x.graceLeft(1, 0));
        });
        e.edge(over, "there is none", () -> {
            QuotaTree x = tree("limit 1 0 5 0 1;tag root 1;file root 9;file root 9;");
            c.due(NONE, x.graceLeft(1, 0));
            c.due(NONE, x.graceLeft(1, 1));
        });
        e.edge(over, "an effective one of 0", () -> {
            QuotaTree x = tree("limit 1 5 9 0 0;limit 2 0 9 0 0;tag root 1;");
            x.gift(1, 2, 5, 50);
            c.due(NONE, x.graceLeft(1, 0));
            x.write(0, 0);
            c.due(NONE, x.graceLeft(1, 0));
            x.write(0, 1);
            c.due(10, x.graceLeft(1, 0));
        });
        e.edge(over, "the effective one counts, not the number that was set", () -> {
            QuotaTree x = tree("limit 1 5 50 0 0;limit 2 5 50 0 0;folder a root;tag root 1;tag a 2;file root 6;file a 5;");
            c.due(10, x.graceLeft(1, 0));
            x.gift(2, 1, 1, 50);
            c.due(NONE, x.graceLeft(1, 0));
            c.due(10, x.graceLeft(2, 0));
        });
    }

    // ---- section 3

    private static void time() {
        String first = "The time (0 at first) is counted in ticks.";
        e.edge(first, "0 at first", () -> c.due(0, new QuotaTree().count(3)));
        e.edge(first, "each tick is one", () -> {
            QuotaTree x = new QuotaTree();
            x.tick(1);
            c.due(1, x.count(3));
            x.tick(999);
            c.due(1000, x.count(3));
        });
        e.edge(first, "no other change lets time pass", () -> {
            QuotaTree x = tree(THREE + "limit 1 1 9 0 0;limit 2 1 9 0 0;");
            x.write(1, 5);
            x.addFolder(0, name("x"));
            x.gift(1, 2, 1, 1);
            x.setGrace(3);
            c.due(0, x.count(3));
            c.due(1, x.count(5));
        });
        String grace = "The grace is a number of ticks (1 to 99, at first 10).";
        e.edge(grace, "at first", () -> c.due(10, new QuotaTree().count(4)));
        e.edge(grace, "1 and 99", () -> {
            QuotaTree x = new QuotaTree();
            x.setGrace(1);
            c.due(1, x.count(4));
            x.setGrace(99);
            c.due(99, x.count(4));
        });
        e.edge(grace, "0 and 100", () -> {
            QuotaTree x = new QuotaTree();
            c.argument(() -> x.setGrace(0));
            c.argument(() -> x.setGrace(100));
            c.due(10, x.count(4));
        });
    }

    private static void clocks() {
        e.edge("Each project has a clock for each kind.", "of all projects", () -> {
            for (int account = 0; account < 16; account++) {
                QuotaTree x = new QuotaTree();
                x.setLimit(account / 2, account % 2, 3, 0);
                x.tick(2);
                x.adjust(account / 2, account % 2, 4);
                x.tick(1);
                for (int other = 0; other < 16; other++) {
                    c.due(other == account ? 9 : NONE, x.graceLeft(other / 2, other % 2));
                    c.due(other == account ? 2 : 0, x.state(other / 2, other % 2));
                }
                c.due(12, x.nextEvent());
                x.tick(9);
                c.due(3, x.state(account / 2, account % 2));
                x.adjust(account / 2, account % 2, -1);
                c.due(NONE, x.graceLeft(account / 2, account % 2));
            }
        });
        e.edge("Each project has a clock for each kind.", "they begin and stop alone", () -> {
            QuotaTree x = tree(THREE + "limit 1 1 0 1 0;limit 2 1 0 1 0;");
            x.write(1, 2);
            x.tick(1);
            x.write(2, 0);
            x.write(2, 0);
            x.tick(1);
            x.write(2, 2);
            x.tick(1);
            x.write(1, 0);
            c.due(7, x.graceLeft(1, 0));
            c.due(10, x.graceLeft(1, 1));
            c.due(9, x.graceLeft(2, 0));
            c.due(8, x.graceLeft(2, 1));
        });
        String set = "each clock is set: if the project is over its soft limit for the kind, a clock that does not run begins"
                + " to run at the present time; otherwise it does not run.";
        e.edge(set, "it begins at the present time", () -> {
            QuotaTree x = tree("limit 1 5 0 0 0;tag root 1;file root 5;");
            x.tick(7);
            x.resize(0, 6);
            c.due(10, x.graceLeft(1, 0));
            c.due(17, x.nextEvent());
        });
        e.edge(set, "one that runs goes on", () -> {
            QuotaTree x = tree("limit 1 5 0 0 0;tag root 1;file root 6;");
            x.tick(3);
            x.resize(0, 9);
            x.setLimit(1, 0, 4, 0);
            x.write(0, 1);
            c.due(7, x.graceLeft(1, 0));
        });
        e.edge(set, "it stops at the limit, and begins anew", () -> {
            QuotaTree x = tree("limit 1 5 0 0 0;tag root 1;file root 6;");
            x.tick(3);
            x.resize(0, 5);
            c.due(NONE, x.graceLeft(1, 0));
            x.tick(1);
            x.resize(0, 6);
            c.due(10, x.graceLeft(1, 0));
        });
        e.edge(set, "one whose grace is over stops, too", () -> {
            QuotaTree x = tree("limit 1 5 0 0 0;tag root 1;file root 6;");
            x.tick(10);
            x.resize(0, 5);
            c.due(NONE, x.graceLeft(1, 0));
            c.due(1, x.state(1, 0));
            c.due(0, x.writeReason(0, 1));
        });
        e.edge(set, "without a soft limit it stops", () -> {
            QuotaTree x = tree("limit 1 5 0 0 0;tag root 1;file root 6;");
            x.setLimit(1, 0, 0, 9);
            c.due(NONE, x.graceLeft(1, 0));
        });
        String behind = "Behind each change (also those that are told in other sections, and undo aside)";
        e.edge(behind, "gift, of the one that gives", () -> {
            QuotaTree x = tree("limit 1 5 9 0 0;limit 2 5 9 0 0;tag root 1;file root 5;");
            x.tick(2);
            x.gift(1, 2, 1, 9);
            c.due(11, x.nextEvent());
            c.due(10, x.graceLeft(1, 0));
        });
        e.edge(behind, "gift, of the one that gets", () -> {
            QuotaTree x = tree("limit 1 5 9 0 0;limit 2 5 9 0 0;tag root 1;file root 6;");
            x.gift(2, 1, 1, 9);
            c.due(NONE, x.graceLeft(1, 0));
        });
        e.edge(behind, "endGift, of both", () -> {
            QuotaTree x = tree("limit 1 5 20 0 0;limit 2 5 20 0 0;folder a root;tag root 1;tag a 2;file root 5;file a 7;");
            x.gift(1, 2, 2, 50);
            x.tick(3);
            c.due(7, x.graceLeft(1, 0));
            c.due(NONE, x.graceLeft(2, 0));
            x.endGift(0);
            c.due(NONE, x.graceLeft(1, 0));
            c.due(10, x.graceLeft(2, 0));
        });
        e.edge(behind, "tick, at the time behind it", () -> {
            QuotaTree x = tree("limit 1 5 20 0 0;limit 2 5 20 0 0;folder a root;tag root 1;tag a 2;file root 5;file a 7;");
            x.gift(1, 2, 2, 3);
            x.tick(8);
            c.due(NONE, x.graceLeft(1, 0));
            c.due(10, x.graceLeft(2, 0));
            c.due(18, x.nextEvent());
        });
        e.edge(behind, "setLimit", () -> {
            QuotaTree x = tree("tag root 1;file root 5;file root 5;");
            x.tick(1);
            x.setLimit(1, 0, 9, 0);
            x.setLimit(1, 1, 1, 0);
            c.due(10, x.graceLeft(1, 0));
            c.due(10, x.graceLeft(1, 1));
        });
        e.edge(behind, "adjust and repair", () -> {
            QuotaTree x = tree("limit 1 5 0 1 0;tag root 1;file root 5;");
            x.adjust(1, 0, 1);
            x.adjust(1, 1, 1);
            c.due(10, x.graceLeft(1, 0));
            c.due(10, x.graceLeft(1, 1));
            x.repair();
            c.due(NONE, x.graceLeft(1, 0));
            c.due(NONE, x.graceLeft(1, 1));
        });
        e.edge(behind, "write, resize and delete", () -> {
            QuotaTree x = tree("limit 1 5 0 1 0;tag root 1;");
            x.write(0, 5);
            runs(x, false, false);
            x.write(0, 1);
            runs(x, true, true);
            x.resize(1, 0);
            runs(x, false, true);
            x.resize(0, 6);
            runs(x, true, true);
            x.delete(0);
            runs(x, false, false);
        });
        e.edge(behind, "moveFile, moveFolder and tag", () -> {
            QuotaTree x = tree(THREE + "limit 1 5 0 1 0;file a 5;file d 1;");
            x.moveFile(1, 1);
            runs(x, true, true);
            x.moveFile(1, 3);
            runs(x, false, false);
            x.moveFolder(3, 1);
            runs(x, true, true);
            x.moveFolder(3, 2);
            runs(x, false, false);
            x.tag(3, 1);
            runs(x, true, true);
            x.tag(3, NONE);
            runs(x, false, false);
        });
    }

    private static void runs(QuotaTree x, boolean blocks, boolean files) {
        c.due(blocks ? 10 : NONE, x.graceLeft(1, 0));
        c.due(files ? 10 : NONE, x.graceLeft(1, 1));
    }

    private static void graceOver() {
        String over = "The grace of a running clock is over if the time minus the time at which it began is at least the grace.";
        e.edge(over, "one tick before, at it, behind it", () -> {
            QuotaTree x = tree("limit 1 5 0 0 0;tag root 1;file root 5;");
            x.tick(4);
            x.resize(0, 6);
            x.tick(9);
            c.due(2, x.state(1, 0));
            c.due(0, x.writeReason(0, 1));
            x.tick(1);
            c.due(3, x.state(1, 0));
            c.due(3, x.writeReason(0, 1));
            x.tick(1);
            c.due(3, x.state(1, 0));
        });
        e.edge(over, "of files", () -> {
            QuotaTree x = tree("grace 3;limit 1 0 0 1 0;tag root 1;file root 5;file root 5;");
            x.tick(2);
            c.due(0, x.writeReason(0, 1));
            x.tick(1);
            c.due(4, x.writeReason(0, 1));
        });
        e.edge(over, "a grace of 1", () -> {
            QuotaTree x = tree("grace 1;limit 1 5 0 0 0;tag root 1;file root 6;");
            c.due(2, x.state(1, 0));
            x.tick(1);
            c.due(3, x.state(1, 0));
        });
        e.edge(over, "a grace that becomes less, and greater again", () -> {
            QuotaTree x = tree("limit 1 5 0 0 0;tag root 1;file root 6;");
            x.tick(5);
            x.setGrace(6);
            c.due(2, x.state(1, 0));
            x.setGrace(5);
            c.due(3, x.state(1, 0));
            x.setGrace(6);
            c.due(2, x.state(1, 0));
        });
        e.edge(over, "a clock that does not run has no grace", () -> {
            QuotaTree x = tree("grace 1;limit 1 5 0 0 0;tag root 1;file root 5;");
            x.tick(99);
            c.due(1, x.state(1, 0));
            c.due(0, x.writeReason(0, 1));
        });
    }

    private static void reasons() {
        String one = "1 the blocks grow, there is a hard limit of the kind 0, and the used amount would be greater than the effective one;";
        e.edge(one, "to the limit, and above it by 1", () -> {
            QuotaTree x = tree("limit 1 0 9 0 0;tag root 1;file root 5;");
            c.due(0, x.writeReason(0, 4));
            c.due(1, x.writeReason(0, 5));
            c.due(1, x.writeReason(0, 9999));
            c.due(5, x.resize(0, 9));
            c.state(() -> x.resize(0, 10));
        });
        e.edge(one, "the blocks do not grow", () -> {
            QuotaTree x = tree("limit 1 0 9 0 0;tag root 1;file root 50;");
            c.due(0, x.writeReason(0, 0));
            c.due(50, x.resize(0, 50));
            c.due(50, x.resize(0, 49));
            c.due(1, x.writeReason(0, 1));
        });
        e.edge(one, "there is no hard limit", () -> {
            QuotaTree x = tree("limit 1 1 0 9 9;tag root 1;file root 50;");
            c.due(0, x.writeReason(0, 9999));
        });
        e.edge(one, "the effective one, by a gift", () -> {
            QuotaTree x = tree("limit 1 0 9 0 0;limit 2 0 9 0 0;tag root 1;file root 5;");
            x.gift(2, 1, 2, 5);
            c.due(0, x.writeReason(0, 6));
            c.due(1, x.writeReason(0, 7));
            x.endGift(0);
            x.gift(1, 2, 2, 5);
            c.due(0, x.writeReason(0, 2));
            c.due(1, x.writeReason(0, 3));
        });
        e.edge(one, "the used amount, not what is counted", () -> {
            QuotaTree x = tree("limit 1 0 9 0 0;tag root 1;file root 5;");
            x.adjust(1, 0, 2);
            c.due(0, x.writeReason(0, 2));
            c.due(1, x.writeReason(0, 3));
        });
        String two = "2 likewise for the files;";
        e.edge(two, "to the limit, and above it by 1", () -> {
            QuotaTree x = tree("limit 1 0 0 0 2;tag root 1;file root 5;");
            c.due(0, x.writeReason(0, 9999));
            x.write(0, 0);
            c.due(2, x.writeReason(0, 0));
            c.state(() -> x.write(0, 0));
        });
        e.edge(two, "the files do not grow", () -> {
            QuotaTree x = tree("limit 1 0 0 0 1;tag root 1;file root 5;file root 5;");
            c.due(5, x.resize(0, 9999));
        });
        e.edge(two, "there is no hard limit", () -> {
            QuotaTree x = tree("limit 1 0 0 1 0;tag root 1;file root 5;file root 5;");
            c.due(0, x.writeReason(0, 1));
        });
        e.edge(two, "gifts do not matter", () -> {
            QuotaTree x = tree("limit 1 0 9 0 1;limit 2 0 9 0 0;tag root 1;file root 5;");
            x.gift(2, 1, 9, 5);
            c.due(2, x.writeReason(0, 1));
        });
        e.edge(two, "several files at once", () -> {
            QuotaTree x = tree(THREE + "limit 1 0 0 0 2;file d 0;file d 0;");
            c.due(0, x.tagReason(3, 1));
            x.write(3, 0);
            c.due(2, x.tagReason(3, 1));
        });
        String three = "3 the blocks grow, the clock of the kind 0 runs and its grace is over;";
        e.edge(three, "it runs, its grace is over", () -> {
            QuotaTree x = tree("limit 1 5 0 0 0;tag root 1;file root 6;");
            c.due(0, x.writeReason(0, 1));
            x.tick(9);
            c.due(0, x.writeReason(0, 1));
            x.tick(1);
            c.due(3, x.writeReason(0, 1));
            c.state(() -> x.write(0, 1));
            c.state(() -> x.resize(0, 7));
        });
        e.edge(three, "the blocks do not grow", () -> {
            QuotaTree x = tree("limit 1 5 0 0 0;tag root 1;file root 7;");
            x.tick(10);
            c.due(0, x.writeReason(0, 0));
            c.due(7, x.resize(0, 7));
            c.due(7, x.resize(0, 6));
        });
        e.edge(three, "the clock of the other kind", () -> {
            QuotaTree x = tree("limit 1 0 0 1 0;tag root 1;file root 6;file root 6;");
            x.tick(10);
            c.due(6, x.resize(0, 7));
        });
        String four = "4 likewise for the files.";
        e.edge(four, "it runs, its grace is over", () -> {
            QuotaTree x = tree("limit 1 0 0 1 0;tag root 1;file root 6;file root 6;");
            x.tick(9);
            c.due(0, x.writeReason(0, 0));
            x.tick(1);
            c.due(4, x.writeReason(0, 0));
            c.due(4, x.writeReason(0, 1));
            c.state(() -> x.write(0, 0));
        });
        e.edge(four, "the files do not grow", () -> {
            QuotaTree x = tree("limit 1 0 0 1 0;tag root 1;file root 6;file root 6;");
            x.tick(10);
            c.due(6, x.resize(0, 9999));
            c.due(9999, x.resize(0, 0));
        });
        e.edge(four, "the clock of the other kind", () -> {
            QuotaTree x = tree("limit 1 5 0 0 0;tag root 1;file root 6;");
            x.tick(10);
            c.due(0, x.writeReason(0, 0));
        });
    }

    private static void orderOfReasons() {
        String first = "this is refused for the first of these reasons:";
        e.edge(first, "all four, then one less each time", () -> {
            QuotaTree x = tree("limit 1 1 5 1 2;tag root 1;file root 3;file root 2;folder a root;tag a 2;file a 1;");
            x.tick(10);
            everyReason(x, 1);
            x.setLimit(1, 0, 1, 6);
            everyReason(x, 2);
            x.setLimit(1, 1, 1, 3);
            everyReason(x, 3);
            x.setLimit(1, 0, 6, 6);
            everyReason(x, 4);
            x.setLimit(1, 1, 3, 3);
            everyReason(x, 0);
        });
        e.edge(first, "for each project", () -> {
            for (int project = 0; project < 8; project++) {
                QuotaTree x = tree("folder a root;tag root " + project + ";tag a " + (project + 1) % 8 + ";file root 3;file root 2;file a 1;");
                x.setLimit(project, 0, 1, 5);
                x.setLimit(project, 1, 1, 2);
                x.tick(10);
                everyReason(x, 1);
                c.due(NONE, x.room(0));
                x.setLimit(project, 0, 1, 6);
                everyReason(x, 2);
                x.setLimit(project, 1, 1, 3);
                everyReason(x, 3);
                c.due(NONE, x.room(0));
                x.setLimit(project, 1, 3, 3);
                c.due(0, x.room(0));
                x.setLimit(project, 1, 1, 3);
                x.setLimit(project, 0, 6, 6);
                x.tick(10);
                everyReason(x, 4);
                x.setLimit(project, 1, 3, 3);
                c.due(1, x.room(0));
                everyReason(x, 0);
            }
        });
        e.edge(first, "1 in front of 3 and 4, 2 in front of 4", () -> {
            QuotaTree x = tree("limit 1 1 5 1 0;tag root 1;file root 3;file root 2;");
            x.tick(10);
            c.due(1, x.writeReason(0, 1));
            x.setLimit(1, 0, 0, 0);
            x.setLimit(1, 1, 1, 2);
            c.due(2, x.writeReason(0, 1));
        });
    }

    /** A file of one block: written into the root, by a tag of folder 1, and by a move of a folder. */
    private static void everyReason(QuotaTree x, int due) {
        c.due(due, x.writeReason(0, 1));
        c.due(due, x.tagReason(1, NONE));
        c.due(due, x.tagReason(1, x.folder(0, 1)));
        if (due > 0) {
            c.state(() -> x.moveFile(2, 0));
        } else {
            c.due(1, x.moveFile(2, 0));
        }
    }

    private static void noProject() {
        String nothing = "For no project (NONE) nothing is ever refused.";
        e.edge(nothing, "write and resize", () -> {
            QuotaTree x = tree("");
            for (int i = 0; i < 60; i++) {
                c.due(0, x.writeReason(0, 9999));
                x.write(0, i);
                x.resize(i, 9999);
            }
            c.due(60, x.count(7));
            c.due(9999, x.room(0));
        });
        e.edge(nothing, "moves and tags to it", () -> {
            QuotaTree x = tree(THREE + "limit 1 1 1 1 1;limit 2 1 1 1 1;file a 9;file a 9;file b 9;folder f a;file f 9;");
            x.tick(99);
            c.due(1, x.moveFile(0, 3));
            c.due(0, x.moveReason(4, 3));
            c.due(1, x.moveFolder(4, 3));
            c.due(0, x.tagReason(1, NONE));
            c.due(1, x.tag(1, NONE));
            c.due(3, x.count(7));
        });
        e.edge(nothing, "no account changes", () -> {
            QuotaTree x = tree("");
            x.write(0, 9);
            x.delete(0);
            for (int project = 0; project < 8; project++) {
                account(x, project, 0, 0);
            }
        });
    }

    private static void states() {
        String all = "The state of a project for a kind is 4 if there is a hard limit and the used amount is greater than the effective one;"
                + " otherwise 3 if the clock runs and its grace is over; otherwise 2 if the clock runs;"
                + " otherwise 1 if there is a soft or a hard limit; otherwise 0.";
        e.edge(all, "4: above the hard limit, not at it", () -> {
            QuotaTree x = tree("limit 1 0 9 0 0;tag root 1;file root 9;");
            c.due(1, x.state(1, 0));
            x.adjust(1, 0, 1);
            c.due(4, x.state(1, 0));
        });
        e.edge(all, "4: of files", () -> {
            QuotaTree x = tree("limit 1 0 0 0 1;tag root 1;file root 9;file root 0;");
            c.due(4, x.state(1, 1));
            c.due(0, x.state(1, 0));
            x.delete(0);
            c.due(1, x.state(1, 1));
        });
        e.edge(all, "4: the effective limit, down to 0", () -> {
            QuotaTree x = tree("limit 1 0 9 0 0;limit 2 0 9 0 0;tag root 1;");
            x.gift(1, 2, 9, 5);
            c.due(1, x.state(1, 0));
            x.adjust(1, 0, 1);
            c.due(4, x.state(1, 0));
            x.tick(5);
            c.due(1, x.state(1, 0));
        });
        e.edge(all, "4 in front of 3 and 2", () -> {
            QuotaTree x = tree("limit 1 5 9 0 0;tag root 1;file root 10;");
            c.due(4, x.state(1, 0));
            x.tick(10);
            c.due(4, x.state(1, 0));
            x.resize(0, 9);
            c.due(3, x.state(1, 0));
        });
        e.edge(all, "3 from the end of the grace, 2 before it", () -> {
            QuotaTree x = tree("limit 1 5 0 1 9;tag root 1;file root 10;file root 0;");
            for (int kind = 0; kind < 2; kind++) {
                c.due(2, x.state(1, kind));
            }
            x.tick(9);
            for (int kind = 0; kind < 2; kind++) {
                c.due(2, x.state(1, kind));
            }
            x.tick(1);
            for (int kind = 0; kind < 2; kind++) {
                c.due(3, x.state(1, kind));
            }
        });
        e.edge(all, "1 with one limit or both, 0 with none", () -> {
            QuotaTree x = tree("limit 1 9 0 0 9;limit 2 9 9 0 0;tag root 1;file root 9;");
            c.due(1, x.state(1, 0));
            c.due(1, x.state(1, 1));
            c.due(1, x.state(2, 0));
            c.due(0, x.state(2, 1));
            c.due(0, x.state(3, 0));
            x.setLimit(1, 0, 0, 0);
            c.due(0, x.state(1, 0));
        });
        e.edge(all, "1 with a limit of 1, soft or hard", () -> {
            for (int account = 0; account < 16; account++) {
                QuotaTree x = new QuotaTree();
                c.due(1, x.setLimit(account / 2, account % 2, 1, 0));
                c.due(1, x.setLimit(account / 2, account % 2, 0, 1));
                c.due(1, x.setLimit(account / 2, account % 2, 1, 1));
                c.due(0, x.setLimit(account / 2, account % 2, 0, 0));
            }
        });
        e.edge(all, "each project, each kind", () -> {
            for (int account = 0; account < 16; account++) {
                QuotaTree x = new QuotaTree();
                int project = account / 2;
                int kind = account % 2;
                c.due(0, x.state(project, kind));
                x.adjust(project, kind, 5);
                c.due(0, x.state(project, kind));
                c.due(1, x.setLimit(project, kind, 5, 5));
                c.due(2, x.setLimit(project, kind, 4, 5));
                c.due(4, x.setLimit(project, kind, 4, 4));
                x.tick(10);
                c.due(4, x.state(project, kind));
                c.due(3, x.setLimit(project, kind, 4, 5));
            }
        });
        e.edge(all, "1 with effective limits of 0", () -> {
            QuotaTree x = tree("limit 1 9 9 0 0;limit 2 0 9 0 0;");
            x.gift(1, 2, 9, 5);
            c.due(1, x.state(1, 0));
        });
    }

    // ---- section 4

    private static void gifts() {
        String most = "There are at most 12 gifts, numbered from 0 as they were made.";
        e.edge(most, () -> {
            QuotaTree x = tree("limit 1 0 99 0 0;limit 2 0 99 0 0;");
            for (int i = 0; i < 12; i++) {
                c.due(i, x.gift(1, 2, i + 1, 20 - i));
            }
            c.state(() -> x.gift(1, 2, 1, 1));
            c.due(12, x.count(5));
            for (int i = 0; i < 12; i++) {
                c.due(i + 1, x.giftOf(i, 2));
            }
        });
        String parts = "A gift has the project that gives, the one that gets, a number of blocks (1 to 9999), and the time at which it ends.";
        e.edge(parts, "1 and 9999 blocks", () -> {
            QuotaTree x = tree("limit 1 0 99999 0 0;limit 2 0 1 0 0;");
            x.gift(1, 2, 1, 1);
            x.gift(1, 2, 9999, 999);
            c.due(1, x.giftOf(0, 2));
            c.due(9999, x.giftOf(1, 2));
            c.due(10001, x.limit(2, 0, true));
        });
        e.edge(parts, "0 and 10000 blocks", () -> {
            QuotaTree x = tree("limit 1 0 99999 0 0;limit 2 0 1 0 0;");
            c.argument(() -> x.gift(1, 2, 0, 1));
            c.argument(() -> x.gift(1, 2, 10000, 1));
            c.argument(() -> x.gift(1, 2, -1, 1));
        });
        e.edge(parts, "the time: now and the ticks", () -> {
            QuotaTree x = tree("limit 0 0 9 0 0;limit 7 0 9 0 0;");
            x.tick(5);
            x.gift(7, 0, 1, 3);
            c.due(7, x.giftOf(0, 0));
            c.due(0, x.giftOf(0, 1));
            c.due(8, x.giftOf(0, 3));
        });
        e.edge(parts, "a time behind the last one", () -> {
            QuotaTree x = tree("limit 1 0 9 0 0;limit 2 0 9 0 0;");
            for (int i = 0; i < 10; i++) {
                x.tick(999);
            }
            x.tick(9);
            x.gift(1, 2, 1, 999);
            c.due(10998, x.giftOf(0, 3));
            c.due(10998, x.nextEvent());
        });
    }

    private static void endsOfGifts() {
        String end = "When the time comes to that or passes it, the gift is taken away.";
        e.edge(end, "one tick before it, and at it", () -> {
            QuotaTree x = tree("limit 1 0 9 0 0;limit 2 0 9 0 0;");
            x.gift(1, 2, 4, 5);
            c.due(0, x.tick(4));
            c.due(13, x.limit(2, 0, true));
            c.due(1, x.tick(1));
            c.due(0, x.count(5));
            c.due(9, x.limit(2, 0, true));
            c.due(9, x.limit(1, 0, true));
        });
        e.edge(end, "passed in one call", () -> {
            QuotaTree x = tree("limit 1 0 9 0 0;limit 2 0 9 0 0;");
            x.gift(1, 2, 4, 5);
            c.due(1, x.tick(6));
            x.gift(1, 2, 4, 1);
            c.due(1, x.tick(999));
        });
        e.edge(end, "all of twelve at once", () -> {
            QuotaTree x = tree("limit 1 0 99 0 0;limit 2 0 9 0 0;");
            for (int i = 0; i < 12; i++) {
                x.gift(1, 2, 1, 1 + i % 3);
            }
            c.due(12, x.tick(3));
            c.due(0, x.count(5));
        });
        String behind = "Then gifts behind it get numbers that are lower by 1.";
        e.edge(behind, "the first, one in between, the last", () -> {
            for (int gone = 0; gone < 3; gone++) {
                QuotaTree x = tree("limit 1 0 99 0 0;limit 2 0 99 0 0;limit 3 0 99 0 0;");
                for (int i = 0; i < 3; i++) {
                    x.gift(1 + i % 3, 1 + (i + 1) % 3, 10 + i, i == gone ? 1 : 2 + i);
                }
                c.due(1, x.tick(1));
                for (int left = 0; left < 2; left++) {
                    int i = left < gone ? left : left + 1;
                    c.due(1 + i % 3, x.giftOf(left, 0));
                    c.due(1 + (i + 1) % 3, x.giftOf(left, 1));
                    c.due(10 + i, x.giftOf(left, 2));
                    c.due(2 + i, x.giftOf(left, 3));
                }
                c.index(() -> x.giftOf(2, 0));
            }
        });
        e.edge(behind, "several that ended", () -> {
            QuotaTree x = tree("limit 1 0 99 0 0;limit 2 0 99 0 0;");
            int[] ticks = {1, 5, 1, 1, 6, 1};
            for (int i = 0; i < 6; i++) {
                x.gift(1, 2, i + 1, ticks[i]);
            }
            c.due(4, x.tick(1));
            c.due(2, x.giftOf(0, 2));
            c.due(5, x.giftOf(1, 2));
            c.due(2, x.count(5));
        });
        String early = "A gift can be ended early at any time.";
        e.edge(early, "in the tick in which it was made, and just before its end", () -> {
            QuotaTree x = tree("limit 1 0 9 0 0;limit 2 0 9 0 0;");
            x.gift(1, 2, 4, 5);
            c.due(0, x.endGift(0));
            x.gift(1, 2, 4, 5);
            x.tick(4);
            c.due(0, x.endGift(0));
            c.due(9, x.limit(1, 0, true));
        });
        e.edge(early, "even if that brings a project above its hard limit", () -> {
            QuotaTree x = tree("limit 1 0 9 0 0;limit 2 0 9 0 0;tag root 2;");
            x.gift(1, 2, 4, 5);
            x.write(0, 13);
            c.due(0, x.endGift(0));
            c.due(4, x.state(2, 0));
        });
    }

    private static void refusedGifts() {
        String limit = "A gift is refused if one of both projects has no hard limit of the kind 0,";
        e.edge(limit, "the one that gives, the one that gets, both", () -> {
            QuotaTree x = tree("limit 1 0 9 0 0;limit 2 0 9 0 0;");
            c.state(() -> x.gift(3, 1, 1, 1));
            c.state(() -> x.gift(1, 3, 1, 1));
            c.state(() -> x.gift(3, 4, 1, 1));
            c.due(0, x.gift(1, 2, 1, 1));
        });
        e.edge(limit, "each project", () -> {
            for (int project = 0; project < 8; project++) {
                int other = (project + 3) % 8;
                int from = project;
                QuotaTree x = new QuotaTree();
                x.setLimit(from, 0, 0, 5);
                c.state(() -> x.gift(from, other, 1, 1));
                x.setLimit(other, 0, 0, 5);
                c.due(0, x.gift(from, other, 4, 1));
                c.due(1, x.limit(from, 0, true));
                c.due(9, x.limit(other, 0, true));
                c.state(() -> x.setLimit(from, 0, 0, 0));
                c.state(() -> x.setLimit(other, 0, 0, 0));
            }
        });
        e.edge(limit, "soft limits and limits of the kind 1 do not help", () -> {
            QuotaTree x = tree("limit 1 0 9 0 0;limit 3 9 0 9 9;");
            c.state(() -> x.gift(3, 1, 1, 1));
            c.state(() -> x.gift(1, 3, 1, 1));
        });
        e.edge(limit, "an effective one of 0 is one", () -> {
            QuotaTree x = tree("limit 1 0 9 0 0;limit 2 0 9 0 0;");
            x.gift(1, 2, 9, 1);
            c.due(1, x.gift(2, 1, 18, 1));
            c.due(18, x.limit(1, 0, true));
        });
        String blocks = "if the blocks are more than the effective hard limit of the kind 0 of the project that gives minus its used blocks,";
        e.edge(blocks, "as many, and one more", () -> {
            QuotaTree x = tree("limit 1 0 50 0 0;limit 2 0 9 0 0;tag root 1;file root 20;");
            c.state(() -> x.gift(1, 2, 31, 1));
            c.due(0, x.gift(1, 2, 30, 1));
            c.state(() -> x.gift(1, 2, 1, 1));
        });
        e.edge(blocks, "the effective limit", () -> {
            QuotaTree x = tree("limit 1 0 50 0 0;limit 2 0 9 0 0;tag root 1;file root 20;");
            x.gift(2, 1, 9, 5);
            c.state(() -> x.gift(1, 2, 40, 1));
            c.due(1, x.gift(1, 2, 39, 1));
        });
        e.edge(blocks, "the used blocks, not what is counted", () -> {
            QuotaTree x = tree("limit 1 0 50 0 0;limit 2 0 9 0 0;tag root 1;file root 20;");
            x.adjust(1, 0, 5);
            c.state(() -> x.gift(1, 2, 26, 1));
            c.due(0, x.gift(1, 2, 25, 1));
        });
        e.edge(blocks, "less than nothing to give", () -> {
            QuotaTree x = tree("limit 1 0 5 0 0;limit 2 0 9 0 0;tag root 1;file root 20;");
            c.state(() -> x.gift(1, 2, 1, 1));
        });
        e.edge(blocks, "what the one that gets uses does not matter", () -> {
            QuotaTree x = tree("limit 1 0 5 0 0;limit 2 0 9 0 0;tag root 2;file root 20;");
            c.due(0, x.gift(1, 2, 5, 1));
        });
        e.edge(blocks, "the soft limit and its grace do not matter", () -> {
            QuotaTree x = tree("grace 1;limit 1 1 50 0 0;limit 2 0 9 0 0;tag root 1;file root 20;");
            x.tick(1);
            c.due(0, x.gift(1, 2, 30, 1));
        });
        String many = "or if there are 12 gifts.";
        e.edge(many, "11, 12, and 11 again", () -> {
            QuotaTree x = tree("limit 1 0 99 0 0;limit 2 0 9 0 0;");
            for (int i = 0; i < 12; i++) {
                c.due(i, x.gift(1, 2, 1, 5));
            }
            c.state(() -> x.gift(1, 2, 1, 5));
            c.state(() -> x.gift(2, 1, 1, 5));
            x.endGift(3);
            c.due(11, x.gift(1, 2, 1, 5));
        });
    }

    // ---- section 5

    private static void movedFiles() {
        String moving = "Moving a file to a folder of another project is a growth of that project by its size and by one file (section 3),"
                + " and a loss of the former one.";
        e.edge(moving, "the accounts", () -> {
            QuotaTree x = tree(THREE + "file a 5;file d 0;");
            c.due(1, x.moveFile(0, 2));
            account(x, 1, 0, 0);
            account(x, 2, 5, 1);
            c.due(1, x.moveFile(0, 3));
            account(x, 2, 0, 0);
            c.due(1, x.moveFile(1, 2));
            account(x, 2, 0, 1);
        });
        e.edge(moving, "to the hard limit of blocks, and above it", () -> {
            QuotaTree x = tree(THREE + "limit 2 0 9 0 0;file b 4;file a 5;file a 6;file a 0;");
            c.state(() -> x.moveFile(2, 2));
            c.due(1, x.file(2, 0));
            c.due(1, x.moveFile(1, 2));
            c.due(1, x.moveFile(3, 2));
        });
        e.edge(moving, "to the hard limit of files, and above it", () -> {
            QuotaTree x = tree(THREE + "limit 2 0 0 0 2;file b 4;file a 5;file a 0;");
            c.due(1, x.moveFile(1, 2));
            c.state(() -> x.moveFile(2, 2));
        });
        e.edge(moving, "when a grace is over", () -> {
            QuotaTree x = tree(THREE + "limit 2 3 0 0 0;file b 4;file a 5;file a 0;");
            x.tick(9);
            c.due(1, x.moveFile(1, 2));
            x.moveFile(1, 1);
            x.tick(1);
            c.state(() -> x.moveFile(1, 2));
            c.due(1, x.moveFile(2, 2));
            QuotaTree y = tree(THREE + "limit 2 0 0 1 0;file b 4;file b 4;file a 0;");
            y.tick(10);
            c.state(() -> y.moveFile(2, 2));
        });
        e.edge(moving, "a loss is never refused", () -> {
            QuotaTree x = tree(THREE + "limit 1 1 1 1 1;file a 5;file a 5;");
            x.tick(10);
            c.due(1, x.moveFile(0, 2));
        });
        e.edge(moving, "to a folder of the same project", () -> {
            QuotaTree x = tree(THREE + "limit 1 1 1 1 1;folder f root;tag f 1;file a 5;file a 5;");
            x.tick(10);
            c.due(0, x.moveFile(0, 4));
            c.due(4, x.file(0, 0));
            account(x, 1, 10, 2);
        });
    }

    private static void movedFolders() {
        String moving = "Moving a folder to another parent changes the project of its open part, if the folder is not tagged:"
                + " from the project of the former parent to that of the new one.";
        e.edge(moving, "not tagged", () -> {
            QuotaTree x = tree(THREE + "folder f a;folder g f;folder h g;tag h 3;file f 1;file g 20;file h 300;");
            c.due(2, x.moveFolder(4, 2));
            account(x, 1, 0, 0);
            account(x, 2, 21, 2);
            account(x, 3, 300, 1);
            c.due(2, x.moveFolder(4, 3));
            account(x, 2, 0, 0);
            c.due(2, x.moveFolder(4, 1));
            account(x, 1, 21, 2);
        });
        e.edge(moving, "tagged", () -> {
            QuotaTree x = tree(THREE + "limit 2 1 1 1 1;file a 5;file a 5;file b 5;file b 5;");
            x.tick(10);
            c.due(0, x.moveReason(1, 2));
            c.due(0, x.moveFolder(1, 2));
            account(x, 1, 10, 2);
            account(x, 2, 10, 2);
        });
        e.edge(moving, "tagged with project 0", () -> {
            QuotaTree x = tree("folder a root;folder b root;tag a 0;tag b 2;file a 5;");
            c.due(0, x.moveFolder(1, 2));
            account(x, 0, 5, 1);
            account(x, 2, 0, 0);
        });
        e.edge(moving, "between parents of the same project", () -> {
            QuotaTree x = tree(THREE + "limit 1 1 1 1 1;folder f a;folder g a;file f 5;file f 5;");
            x.tick(10);
            c.due(0, x.moveReason(4, 5));
            c.due(0, x.moveFolder(4, 5));
            account(x, 1, 10, 2);
            c.due(5, x.folder(4, 0));
        });
        e.edge(moving, "to the parent that it has", () -> {
            QuotaTree x = tree(THREE + "folder f a;file f 5;");
            c.due(0, x.moveFolder(4, 1));
            c.due(1, x.folder(4, 0));
            account(x, 1, 5, 1);
        });
        String growth = "Such a change is a growth of the later project by the blocks and the number of the files of this open part,"
                + " and a loss of the former one;";
        e.edge(growth, "a move to the hard limits, and above them", () -> {
            QuotaTree x = tree(THREE + "limit 2 0 9 0 3;folder f a;file f 3;file f 2;file b 4;");
            c.due(0, x.moveReason(4, 2));
            x.setLimit(2, 0, 0, 8);
            c.due(1, x.moveReason(4, 2));
            x.setLimit(2, 0, 0, 9);
            x.setLimit(2, 1, 0, 2);
            c.due(2, x.moveReason(4, 2));
            c.state(() -> x.moveFolder(4, 2));
            c.due(1, x.folder(4, 0));
        });
        e.edge(growth, "a tag to the hard limits, and above them", () -> {
            QuotaTree x = tree(THREE + "limit 2 0 9 0 3;file a 3;file a 2;file b 4;");
            c.due(0, x.tagReason(1, 2));
            x.setLimit(2, 0, 0, 8);
            c.due(1, x.tagReason(1, 2));
            x.setLimit(2, 0, 0, 9);
            x.setLimit(2, 1, 0, 2);
            c.due(2, x.tagReason(1, 2));
            c.state(() -> x.tag(1, 2));
            c.due(1, x.folder(1, 1));
        });
        e.edge(growth, "an open part of empty files, and one of none", () -> {
            QuotaTree x = tree(THREE + "limit 2 1 1 0 0;file d 0;file b 2;folder f root;");
            x.tick(10);
            c.due(0, x.tagReason(3, 2));
            c.due(0, x.moveReason(3, 2));
            x.setLimit(2, 1, 0, 1);
            c.due(2, x.tagReason(3, 2));
            c.due(2, x.moveReason(3, 2));
            c.due(0, x.tagReason(4, 2));
            c.due(0, x.moveReason(4, 2));
        });
        e.edge(growth, "only the open part counts", () -> {
            QuotaTree x = tree(THREE + "limit 3 0 3 0 1;folder f d;tag f 5;file d 3;file f 9;");
            c.due(0, x.tagReason(3, 3));
            c.due(1, x.tag(3, 3));
            account(x, 3, 3, 1);
            account(x, 5, 9, 1);
        });
    }

    private static void tags() {
        String tagging = "Tagging a folder, or untagging it, changes the project of its open part:"
                + " from the project that the folder had to the one that it has then.";
        e.edge(tagging, "from none, to another, to none", () -> {
            QuotaTree x = tree("file root 5;file root 4;");
            c.due(2, x.tag(0, 0));
            account(x, 0, 9, 2);
            c.due(2, x.tag(0, 7));
            account(x, 0, 0, 0);
            account(x, 7, 9, 2);
            c.due(2, x.tag(0, NONE));
            account(x, 7, 0, 0);
        });
        e.edge(tagging, "untagged, it has that of its parent", () -> {
            QuotaTree x = tree("folder a root;folder b a;tag root 4;tag b 5;file b 3;");
            c.due(1, x.tag(2, NONE));
            account(x, 4, 3, 1);
            account(x, 5, 0, 0);
            c.due(4, x.folder(2, 2));
            c.due(NONE, x.folder(2, 1));
        });
        e.edge(tagging, "untagging is refused if the parent's project is full", () -> {
            QuotaTree x = tree("limit 4 0 2 0 0;folder a root;tag root 4;tag a 5;file a 3;");
            c.due(1, x.tagReason(1, NONE));
            c.state(() -> x.tag(1, NONE));
            c.due(5, x.folder(1, 1));
            account(x, 4, 0, 0);
        });
        String same = "if both are the same project, nothing is checked and nothing changes.";
        e.edge(same, "the tag that it has", () -> {
            QuotaTree x = tree("limit 1 1 1 1 1;tag root 1;file root 5;file root 5;");
            x.tick(10);
            c.due(0, x.tagReason(0, 1));
            c.due(0, x.tag(0, 1));
            account(x, 1, 10, 2);
        });
        e.edge(same, "the project that it has from its parent, and back", () -> {
            QuotaTree x = tree("limit 1 1 1 1 1;folder a root;tag root 1;file a 5;file a 5;");
            x.tick(10);
            c.due(0, x.tagReason(1, 1));
            c.due(0, x.tag(1, 1));
            c.due(1, x.folder(1, 1));
            account(x, 1, 10, 2);
            c.due(0, x.tagReason(1, NONE));
            c.due(0, x.tag(1, NONE));
            c.due(NONE, x.folder(1, 1));
            account(x, 1, 10, 2);
        });
        e.edge(same, "no tag where there is none", () -> {
            QuotaTree x = tree("file root 5;");
            c.due(0, x.tagReason(0, NONE));
            c.due(0, x.tag(0, NONE));
        });
        e.edge(same, "an adjusted account stays", () -> {
            QuotaTree x = tooLittle(3, 0);
            x.tag(1, 1);
            x.moveFolder(1, 3);
            x.moveFile(0, 1);
            account(x, 1, 3, 0);
        });
    }

    private static void cannotMove() {
        String cannot = "A folder cannot be moved into its own subtree, and the root cannot be moved.";
        e.edge(cannot, "to itself, to its child, further below", () -> {
            QuotaTree x = tree("folder a root;folder b a;folder d b;");
            for (int parent = 1; parent <= 3; parent++) {
                int each = parent;
                c.due(5, x.moveReason(1, each));
                c.state(() -> x.moveFolder(1, each));
            }
            c.due(0, x.folder(1, 0));
            c.due(0, x.moveReason(3, 1));
            c.due(0, x.moveReason(2, 1));
            c.due(0, x.moveReason(2, 0));
        });
        e.edge(cannot, "the root", () -> {
            QuotaTree x = tree("folder a root;");
            c.due(5, x.moveReason(0, 0));
            c.due(5, x.moveReason(0, 1));
            c.state(() -> x.moveFolder(0, 0));
            c.state(() -> x.moveFolder(0, 1));
            c.due(NONE, x.folder(0, 0));
        });
        e.edge(cannot, "along a path of 40", () -> {
            QuotaTree x = Edges.chain();
            c.due(5, x.moveReason(1, 39));
            c.due(0, x.moveReason(39, 0));
            x.moveFolder(39, 0);
            c.due(0, x.moveReason(1, 39));
            x.moveFolder(1, 39);
            c.due(39, x.folder(38, 5));
        });
    }
}
