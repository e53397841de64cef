/** Section 6 of the document, the part about texts: each sentence that names a boundary case. */
public final class EdgesOfTextsTest {

    private static final Edges e = new Edges();
    private static final Checks c = e.checks;
    private static final int NONE = QuotaTree.NONE;
    private static final int SYNTAX = QuotaTree.SYNTAX_ERROR;
    private static final int VALUE = QuotaTree.VALUE_ERROR;
    private static final int MANY = QuotaTree.TOO_MANY;

    public static void main(String[] args) {
        e.part("Description");
        length();
        grammar();
        words();
        numbers();
        spaces();
        graceAndLimits();
        foldersAndTags();
        files();
        errors();
        syntaxErrors();
        values();
        limitsAsValues();
        names();
        tooMany();
        e.close("EdgesOfTextsTest");
    }

    private static void error(int code, int position, String text) {
        QuotaTree x = new QuotaTree();
        String got = Checks.load(x, text) + " at " + x.errorPosition();
        c.due(text + ": " + code + " at " + position, text + ": " + got);
    }

    private static QuotaTree fine(String text) {
        QuotaTree x = new QuotaTree();
        int files = Checks.load(x, text);
        c.due(text + ": right", text + ": " + (files >= 0 ? "right" : files + " at " + x.errorPosition()));
        c.due(NONE, x.errorPosition());
        return x;
    }

    private static void length() {
        String sentence = "A tree is read from a text of at most 900 bytes:";
        e.edge(sentence, "900 bytes", () -> {
            QuotaTree x = fine(" ".repeat(892) + "grace 7;");
            c.due(7, x.count(4));
        });
        e.edge(sentence, "the last of 900 bytes is read", () -> error(SYNTAX, 899, " ".repeat(899) + "x"));
        e.edge(sentence, "the text ends with the 900th byte", () -> error(SYNTAX, 900, " ".repeat(893) + "grace 7"));
        e.edge(sentence, "no byte", () -> {
            QuotaTree x = new QuotaTree();
            c.due(0, x.load(0));
            c.due(NONE, x.errorPosition());
        });
        e.edge(sentence, "as many statements as fit", () -> {
            QuotaTree x = fine("grace1;".repeat(128));
            c.due(1, x.count(4));
        });
    }

    private static void grammar() {
        String sentence = "text = { statement \";\" } .";
        e.edge(sentence, "no statement", () -> fine(""));
        e.edge(sentence, "one", () -> c.due(1, fine("grace 1;").count(4)));
        e.edge(sentence, "several", () -> c.due(3, fine("grace 1;grace 2;grace 3;").count(4)));
        e.edge(sentence, "the last one without its semicolon", () -> error(SYNTAX, 15, "grace 1;grace 2"));
        e.edge(sentence, "a semicolon alone", () -> error(SYNTAX, 0, ";"));
        e.edge(sentence, "two semicolons", () -> error(SYNTAX, 8, "grace 1;;"));
        String statement = "statement = \"grace\" N | \"limit\" N N N N N | \"folder\" NAME NAME | \"tag\" NAME N | \"file\" NAME N .";
        e.edge(statement, "grace: too few, too many, another kind", () -> {
            error(SYNTAX, 6, "grace ;");
            error(SYNTAX, 8, "grace 5 6;");
            error(SYNTAX, 6, "grace a;");
        });
        e.edge(statement, "limit: too few, too many, another kind", () -> {
            error(SYNTAX, 14, "limit 1 2 3 4 ;");
            error(SYNTAX, 16, "limit 1 2 3 4 5 6;");
            for (int at = 6; at < 16; at += 2) {
                StringBuilder text = new StringBuilder("limit 1 2 3 4 5;");
                text.setCharAt(at, 'a');
                error(SYNTAX, at, text.toString());
            }
        });
        e.edge(statement, "folder: too few, too many, another kind", () -> {
            error(SYNTAX, 8, "folder a;");
            error(SYNTAX, 14, "folder a root root;");
            error(SYNTAX, 7, "folder 1 root;");
            error(SYNTAX, 9, "folder a 0;");
        });
        e.edge(statement, "tag: too few, too many, another kind", () -> {
            error(SYNTAX, 8, "tag root;");
            error(SYNTAX, 11, "tag root 1 1;");
            error(SYNTAX, 4, "tag 1 1;");
            error(SYNTAX, 9, "tag root root;");
        });
        e.edge(statement, "file: too few, too many, another kind", () -> {
            error(SYNTAX, 9, "file root;");
            error(SYNTAX, 12, "file root 1 1;");
            error(SYNTAX, 5, "file 1 1;");
            error(SYNTAX, 10, "file root root;");
        });
        e.edge(statement, "another word, and words that begin or end alike", () -> {
            error(SYNTAX, 0, "root 1;");
            error(SYNTAX, 0, "grac 1;");
            error(SYNTAX, 0, "race 1;");
            error(SYNTAX, 0, "graces 1;");
            error(SYNTAX, 0, "files root 1;");
            error(SYNTAX, 0, "ile root 1;");
            error(SYNTAX, 0, "tagg root 1;");
            error(SYNTAX, 0, "folders a root;");
            error(SYNTAX, 0, "limits 0 0 0 0 0;");
        });
    }

    private static void words() {
        String letters = "A word is the longest possible sequence of the letters a to z;";
        e.edge(letters, "a and z are letters", () -> {
            QuotaTree x = fine("folder az root;folder za az;");
            c.due(1, x.find(Checks.name("az")));
            c.due(2, x.find(Checks.name("za")));
        });
        e.edge(letters, "the bytes before a and behind z are none", () -> {
            error(SYNTAX, 8, "folder a` root;");
            error(SYNTAX, 8, "folder a{ root;");
            error(SYNTAX, 7, "folder ` root;");
            error(SYNTAX, 7, "folder { root;");
            error(SYNTAX, 7, "folder A root;");
            error(SYNTAX, 0, "{");
            error(SYNTAX, 0, "`");
        });
        e.edge(letters, "it goes on as long as letters come", () -> {
            error(SYNTAX, 0, "foldera root;");
            error(SYNTAX, 12, "folder aroot;");
            error(SYNTAX, 0, "tagroot 1;");
        });
        e.edge(letters, "it ends at a digit", () -> {
            QuotaTree x = fine("tag root7;file root9;");
            c.due(7, x.folder(0, 1));
            c.due(9, x.file(0, 1));
        });
        String names = "NAME is a word of at most 8 letters";
        e.edge(names, "8 letters", () -> {
            QuotaTree x = fine("folder abcdefgh root;tag abcdefgh 1;file abcdefgh 2;folder zzzzzzzz abcdefgh;");
            c.due(1, x.find(Checks.name("abcdefgh")));
            c.due(2, x.find(Checks.name("zzzzzzzz")));
        });
        e.edge(names, "one letter", () -> c.due(1, fine("folder a root;").find(1)));
        e.edge(names, "9 letters", () -> {
            error(SYNTAX, 7, "folder abcdefghi root;");
            error(SYNTAX, 9, "folder a abcdefghi;");
            error(SYNTAX, 4, "tag abcdefghi 1;");
            error(SYNTAX, 5, "file abcdefghi 1;");
        });
        e.edge(names, "many letters, that come round to a NAME", () -> {
            error(SYNTAX, 7, "folder " + "z".repeat(13) + " root;");
            error(SYNTAX, 4, "tag " + "p".repeat(9) + "root 1;");
            error(SYNTAX, 4, "tag " + "p".repeat(500) + "root 1;");
            error(SYNTAX, 0, "a".repeat(60) + "grace 1;");
        });
        e.edge("(where a NAME is allowed, the quoted words are NAMES, too)", () -> {
            QuotaTree x = fine("folder grace root;folder limit grace;folder folder limit;folder tag folder;"
                    + "folder file tag;tag grace 1;tag limit 2;tag folder 3;tag tag 4;tag file 5;"
                    + "file grace 1;file limit 2;file folder 3;file tag 4;file file 5;");
            for (int i = 1; i <= 5; i++) {
                c.due(i, x.folder(i, 1));
                c.due(i - 1, x.folder(i, 0));
                c.due(i, x.file(i - 1, 0));
            }
        });
    }

    private static void numbers() {
        String sentence = "N is the longest possible sequence of digits.";
        e.edge(sentence, "0 and 9 are digits", () -> {
            QuotaTree x = fine("limit 0 90 909 9 99;");
            c.due(90, x.limit(0, 0, false));
            c.due(909, x.limit(0, 0, true));
        });
        e.edge(sentence, "the bytes before 0 and behind 9 are none", () -> {
            error(SYNTAX, 7, "grace 5/;");
            error(SYNTAX, 7, "grace 5:;");
            error(SYNTAX, 6, "grace /;");
            error(SYNTAX, 6, "grace :;");
        });
        e.edge(sentence, "no sign, no point", () -> {
            error(SYNTAX, 6, "grace -5;");
            error(SYNTAX, 6, "grace +5;");
            error(SYNTAX, 7, "grace 5.0;");
        });
        e.edge(sentence, "leading zeros", () -> {
            QuotaTree x = fine("grace " + "0".repeat(100) + "99;tag root 007;file root 09999;limit 00 01 02 03 04;");
            c.due(99, x.count(4));
            c.due(7, x.folder(0, 1));
            c.due(9999, x.file(0, 1));
            c.due(4, x.limit(0, 1, true));
        });
        e.edge(sentence, "it goes on as long as digits come", () -> {
            error(VALUE, 6, "grace 123;");
            error(SYNTAX, 8, "grace 5 5;");
            error(SYNTAX, 15, "limit 0 0 0 000;");
        });
        e.edge(sentence, "it ends at a letter", () -> error(SYNTAX, 7, "grace 5grace 5;"));
    }

    private static void spaces() {
        String sentence = "Spaces (byte 32) may stand in front of every token and at the end of the text.";
        e.edge(sentence, "in front of every token", () -> {
            QuotaTree x = fine("   grace   5   ;   folder   a   root   ;   tag   a   1   ;   file   a   2   ;"
                    + "   limit   1   2   3   4   5   ;");
            c.due(5, x.count(4));
            c.due(1, x.folder(1, 1));
            c.due(2, x.file(0, 1));
            c.due(5, x.limit(1, 1, true));
        });
        e.edge(sentence, "at the end of the text", () -> fine("grace 5;   "));
        e.edge(sentence, "spaces alone", () -> fine("   "));
        e.edge(sentence, "none where a token ends by itself", () -> {
            QuotaTree x = fine("grace5;folder a root;tag a1;file a2;limit1 2 3 4 5;");
            c.due(2, x.file(0, 1));
            c.due(5, x.limit(1, 1, true));
        });
        e.edge(sentence, "not inside a token", () -> {
            error(SYNTAX, 0, "gr ace 5;");
            error(SYNTAX, 8, "grace 1 0;");
        });
        e.edge(sentence, "no other byte is a space", () -> {
            int[] others = {0, 9, 10, 13, 31, 33, 127, 128, 160, 255};
            for (int other : others) {
                error(SYNTAX, 5, "grace" + (char) other + "5;");
                error(SYNTAX, 8, "grace 5;" + (char) other);
                error(SYNTAX, 0, (char) other + "grace 5;");
            }
        });
    }

    private static void graceAndLimits() {
        String grace = "the grace (a later one replaces an earlier one; 10 without it);";
        e.edge(grace, "10 without it", () -> {
            QuotaTree x = new QuotaTree();
            x.setGrace(7);
            c.due(0, Checks.load(x, "limit 1 0 0 0 0;"));
            c.due(10, x.count(4));
        });
        e.edge(grace, "a later one, greater and less", () -> {
            c.due(8, fine("grace 3;grace 8;").count(4));
            c.due(3, fine("grace 8;folder a root;grace 3;").count(4));
        });
        String limit = "the number of a project, its soft and hard limit of the kind 0, then those of the kind 1"
                + " (likewise; 0 without it);";
        e.edge(limit, "their order", () -> {
            QuotaTree x = fine("limit 6 1 2 3 4;");
            c.due(1, x.limit(6, 0, false));
            c.due(2, x.limit(6, 0, true));
            c.due(3, x.limit(6, 1, false));
            c.due(4, x.limit(6, 1, true));
        });
        e.edge(limit, "a later one replaces all four", () -> {
            QuotaTree x = fine("limit 6 5 6 7 8;limit 5 9 9 9 9;limit 6 1 0 0 2;");
            c.due(1, x.limit(6, 0, false));
            c.due(NONE, x.limit(6, 0, true));
            c.due(NONE, x.limit(6, 1, false));
            c.due(2, x.limit(6, 1, true));
            c.due(9, x.limit(5, 0, false));
        });
        e.edge(limit, "0 without it", () -> {
            QuotaTree x = new QuotaTree();
            x.setLimit(5, 0, 1, 2);
            x.setLimit(5, 1, 3, 4);
            c.due(0, Checks.load(x, "limit 6 5 6 7 8;"));
            for (int kind = 0; kind < 2; kind++) {
                c.due(NONE, x.limit(5, kind, false));
                c.due(NONE, x.limit(5, kind, true));
                c.due(0, x.state(5, kind));
            }
        });
        e.edge(limit, "0 without it, behind a text that told some", () -> {
            QuotaTree x = fine("limit 6 5 6 7 8;limit 0 1 2 3 4;");
            c.due(0, Checks.load(x, "limit 5 1 2 3 4;"));
            for (int project = 0; project < 8; project++) {
                for (int kind = 0; kind < 2; kind++) {
                    c.due(project == 5 ? 1 + 2 * kind : NONE, x.limit(project, kind, false));
                    c.due(project == 5 ? 2 + 2 * kind : NONE, x.limit(project, kind, true));
                }
            }
        });
        e.edge(limit, "nothing of a text with an error", () -> {
            QuotaTree x = new QuotaTree();
            c.due(SYNTAX, Checks.load(x, "grace 3;limit 6 5 6 7 8;folder a root;tag root 2;tag a 3;file a 1;x"));
            c.due(0, Checks.load(x, "folder b root;"));
            c.due(10, x.count(4));
            c.due(2, x.count(0));
            c.due(0, x.count(1));
            c.due(0, x.count(6));
            for (int kind = 0; kind < 2; kind++) {
                c.due(NONE, x.limit(6, kind, false));
                c.due(NONE, x.limit(6, kind, true));
            }
        });
        e.edge(limit, "each project", () -> {
            for (int project = 0; project < 8; project++) {
                QuotaTree x = fine("limit " + project + " 1 2 3 4;");
                for (int other = 0; other < 8; other++) {
                    c.due(other == project ? 1 : NONE, x.limit(other, 0, false));
                    c.due(other == project ? 2 : NONE, x.limit(other, 0, true));
                    c.due(other == project ? 3 : NONE, x.limit(other, 1, false));
                    c.due(other == project ? 4 : NONE, x.limit(other, 1, true));
                }
            }
        });
        String refuse = "Limits refuse nothing while a text is read;";
        e.edge(refuse, "hard limits, in front of the files and behind", () -> {
            QuotaTree x = fine("limit 1 0 1 0 1;tag root 1;file root 9;file root 9;limit 1 0 2 0 1;");
            c.due(18, x.used(1, 0));
            c.due(2, x.used(1, 1));
            c.due(4, x.state(1, 0));
            c.due(4, x.state(1, 1));
        });
        e.edge(refuse, "a tag that brings files over limits", () -> {
            QuotaTree x = fine("limit 1 0 1 0 1;folder a root;file a 9;file a 9;tag a 1;");
            c.due(18, x.used(1, 0));
        });
        String clocks = "clocks are set when it was read, at the time 0.";
        e.edge(clocks, "over the soft limits", () -> {
            QuotaTree x = fine("grace 4;limit 1 8 0 0 0;limit 2 0 0 1 0;folder a root;tag root 1;tag a 2;"
                    + "file root 9;file a 9;file a 9;");
            c.due(4, x.graceLeft(1, 0));
            c.due(NONE, x.graceLeft(1, 1));
            c.due(NONE, x.graceLeft(2, 0));
            c.due(4, x.graceLeft(2, 1));
            x.tick(4);
            c.due(3, x.state(1, 0));
        });
        e.edge(clocks, "at the soft limits", () -> {
            QuotaTree x = fine("limit 1 9 0 1 0;tag root 1;file root 9;");
            c.due(NONE, x.graceLeft(1, 0));
            c.due(NONE, x.graceLeft(1, 1));
        });
        e.edge(clocks, "over a limit in between alone", () -> {
            QuotaTree x = fine("limit 1 1 0 0 0;tag root 1;file root 9;limit 1 9 0 0 0;");
            c.due(NONE, x.graceLeft(1, 0));
        });
        e.edge(clocks, "a clock that ran before the call", () -> {
            QuotaTree x = fine("limit 1 1 0 0 0;tag root 1;file root 9;");
            x.tick(3);
            c.due(1, Checks.load(x, "limit 1 1 0 0 0;tag root 1;file root 9;"));
            c.due(0, x.count(3));
            c.due(10, x.graceLeft(1, 0));
        });
    }

    private static void foldersAndTags() {
        String folder = "the name of a new folder and that of its parent;";
        e.edge(folder, () -> {
            QuotaTree x = fine("folder a root;folder b a;folder d b;folder f a;");
            int[] parents = {NONE, 0, 1, 2, 1};
            for (int i = 0; i < 5; i++) {
                c.due(parents[i], x.folder(i, 0));
            }
            c.due(0, x.count(6));
        });
        String tag = "the folder that is tagged and the project (a later tag of a folder replaces an earlier one);";
        e.edge(tag, "a later tag", () -> {
            QuotaTree x = fine("folder a root;tag a 3;file a 5;tag root 2;tag a 4;");
            c.due(4, x.folder(1, 1));
            c.due(2, x.folder(0, 1));
            c.due(0, x.used(3, 0));
            c.due(5, x.used(4, 0));
            c.due(2, x.count(6));
        });
        e.edge(tag, "the root, the first and the last project", () -> {
            c.due(0, fine("tag root 0;").folder(0, 1));
            c.due(7, fine("tag root 7;").folder(0, 1));
        });
        String told = "Folders must be told before they are named.";
        e.edge(told, "as a parent", () -> error(VALUE, 9, "folder a b;folder b root;"));
        e.edge(told, "as its own parent", () -> error(VALUE, 9, "folder a a;"));
        e.edge(told, "by a tag", () -> error(VALUE, 4, "tag a 1;folder a root;"));
        e.edge(told, "by a file", () -> error(VALUE, 5, "file a 1;folder a root;"));
        e.edge(told, "in an earlier tree alone", () -> {
            QuotaTree x = fine("folder a root;");
            c.due(VALUE, Checks.load(x, "tag a 1;"));
            c.due(4, x.errorPosition());
        });
        e.edge(told, "the root is there without being told", () -> fine("tag root 1;file root 1;folder a root;"));
    }

    private static void files() {
        e.edge("the folder of a new file and its size.", () -> {
            QuotaTree x = fine("folder a root;file a 0;file root 9999;file a 1;");
            int[][] due = {{1, 0}, {0, 9999}, {1, 1}};
            for (int file = 0; file < 3; file++) {
                c.due(due[file][0], x.file(file, 0));
                c.due(due[file][1], x.file(file, 1));
            }
        });
    }

    private static void errors() {
        String first = "Reading stops at the first error.";
        e.edge(first, "of one code behind another", () -> {
            error(VALUE, 6, "grace 0;x");
            error(SYNTAX, 0, "x;grace 0;");
            error(VALUE, 6, "grace 0");
            error(VALUE, 10, "limit 1 5 4 x");
        });
        e.edge(first, "of the same code", () -> {
            error(VALUE, 6, "limit 8 100000 0 0 0;");
            error(VALUE, 8, "limit 7 100000 1 0 0;");
            error(SYNTAX, 6, "grace x y");
        });
        e.edge(first, "in the first of two statements", () -> {
            error(VALUE, 9, "folder a b;folder a b;");
            error(MANY, 720, Edges.files(61) + "x");
            error(SYNTAX, 720, Edges.files(60) + "x;file root 1;");
        });
        String list = "If several error codes fit the same position, the first one in this list is reported:";
        e.edge(list, "a word that is too long and no folder's name", () -> {
            error(SYNTAX, 4, "tag abcdefghi 1;");
            error(SYNTAX, 5, "file abcdefghi 1;");
            error(SYNTAX, 9, "folder a abcdefghi;");
        });
    }

    private static void syntaxErrors() {
        String start = "SYNTAX_ERROR: a byte or token that is not allowed here (at its first byte),";
        e.edge(start, "a token of several bytes", () -> {
            error(SYNTAX, 8, "grace 5 567;");
            error(SYNTAX, 6, "grace abc;");
            error(SYNTAX, 0, "567;");
            error(SYNTAX, 3, "   abc;");
        });
        e.edge(start, "a byte that begins no token", () -> {
            error(SYNTAX, 0, "\u0000");
            error(SYNTAX, 0, "\u00ff");
            error(SYNTAX, 6, "grace \u00e9;");
            error(SYNTAX, 8, "grace 5 ,");
            error(SYNTAX, 9, "file root\t1;");
        });
        String end = "or an unexpected end of the text (at the length of the text).";
        e.edge(end, "behind each token of each statement", () -> {
            String[] texts = {"grace", "grace 5", "limit", "limit 1", "limit 1 2", "limit 1 2 3", "limit 1 2 3 4",
                "limit 1 2 3 4 5", "folder", "folder a", "folder a root", "tag", "tag root", "tag root 1", "file",
                "file root", "file root 1"};
            for (String text : texts) {
                error(SYNTAX, text.length(), text);
                error(SYNTAX, text.length() + 3, text + "   ");
            }
        });
        e.edge(end, "the length that load is told, whatever stands behind it", () -> {
            String text = "grace 5;";
            int[] positions = {NONE, 0, 0, 0, 0, 5, 6, 7, NONE};
            for (int length = 0; length <= 8; length++) {
                QuotaTree x = new QuotaTree();
                Checks.put(x, text);
                c.due(positions[length] == NONE ? 0 : SYNTAX, x.load(length));
                c.due(positions[length], x.errorPosition());
            }
        });
        e.edge(end, "a token that the length cuts", () -> {
            QuotaTree x = new QuotaTree();
            Checks.put(x, "folder ab root;tag ab 1;");
            c.due(VALUE, x.load(20));
            c.due(19, x.errorPosition());
            Checks.put(x, "grace 55;");
            c.due(SYNTAX, x.load(7));
            c.due(7, x.errorPosition());
        });
    }

    private static void values() {
        String range = "VALUE_ERROR: a number out of its range;";
        e.edge(range, "grace", () -> {
            error(VALUE, 6, "grace 0;");
            c.due(1, fine("grace 1;").count(4));
            c.due(99, fine("grace 99;").count(4));
            error(VALUE, 6, "grace 100;");
        });
        e.edge(range, "the project of limits", () -> {
            fine("limit 0 0 0 0 0;");
            fine("limit 7 0 0 0 0;");
            error(VALUE, 6, "limit 8 0 0 0 0;");
        });
        e.edge(range, "the project of a tag", () -> {
            fine("tag root 0;");
            fine("tag root 7;");
            error(VALUE, 9, "tag root 8;");
        });
        e.edge(range, "each limit", () -> {
            fine("limit 1 99999 99999 99999 99999;");
            error(VALUE, 8, "limit 1 100000 0 0 0;");
            error(VALUE, 10, "limit 1 0 100000 0 0;");
            error(VALUE, 12, "limit 1 0 0 100000 0;");
            error(VALUE, 14, "limit 1 0 0 0 100000;");
        });
        e.edge(range, "the size of a file", () -> {
            c.due(0, fine("file root 0;").file(0, 1));
            c.due(9999, fine("file root 9999;").file(0, 1));
            error(VALUE, 10, "file root 10000;");
        });
        e.edge(range, "numbers that come round to a good one", () -> {
            String[] numbers = {"4294967301", "2147483653", "18446744073709551621", "340282366920938463463374607431768211461"};
            for (String number : numbers) {
                error(VALUE, 6, "grace " + number + ";");
                error(VALUE, 6, "limit " + number + " 0 0 0 0;");
                error(VALUE, 8, "limit 1 " + number + " 0 0 0;");
                error(VALUE, 9, "tag root " + number + ";");
                error(VALUE, 10, "file root " + number + ";");
            }
            error(VALUE, 6, "grace 1" + "0".repeat(800) + ";");
            error(VALUE, 6, "grace " + "9".repeat(800) + ";");
        });
    }

    private static void limitsAsValues() {
        String hard = "a hard limit above 0 that is less than the soft one (at the first digit of the hard one);";
        e.edge(hard, "less by 1", () -> {
            error(VALUE, 12, "limit 1 100 99 0 0;");
            error(VALUE, 16, "limit 1 0 0 100 99;");
            error(VALUE, 10, "limit 1 2 1 0 0;");
        });
        e.edge(hard, "its first digit", () -> {
            error(VALUE, 12, "limit 1 5   4 0 0;");
            error(VALUE, 10, "limit 1 5 0004 0 0;");
        });
        e.edge(hard, "the same", () -> {
            QuotaTree x = fine("limit 1 100 100 5 5;");
            c.due(100, x.limit(1, 0, true));
            c.due(5, x.limit(1, 1, true));
        });
        e.edge(hard, "a hard limit of 0", () -> {
            QuotaTree x = fine("limit 1 100 0 5 0;");
            c.due(NONE, x.limit(1, 0, true));
            c.due(5, x.limit(1, 1, false));
        });
        e.edge(hard, "the soft limit of the other kind does not matter", () -> fine("limit 1 9 9 1 1;limit 1 1 1 9 9;"));
    }

    private static void names() {
        String taken = "a name of a new folder that a folder has;";
        e.edge(taken, "that of the root", () -> error(VALUE, 7, "folder root root;"));
        e.edge(taken, "that of an earlier folder", () -> error(VALUE, 21, "folder a root;folder a root;"));
        e.edge(taken, "whatever follows it", () -> error(VALUE, 21, "folder a root;folder a 7"));
        e.edge(taken, "a longer and a shorter one are free", () -> fine("folder ab root;folder a root;folder abc root;"));
        e.edge(taken, "one of the tree before is free", () -> {
            QuotaTree x = fine("folder a root;");
            c.due(0, Checks.load(x, "folder a root;"));
            c.due(2, x.count(0));
        });
        String unknown = "a NAME of a folder that does not exist (each at its first byte).";
        e.edge(unknown, "a parent", () -> error(VALUE, 11, "folder a   bbb;"));
        e.edge(unknown, "a tagged folder", () -> error(VALUE, 4, "tag bbb 1;"));
        e.edge(unknown, "the folder of a file", () -> error(VALUE, 5, "file bbb 1;"));
        e.edge(unknown, "a part of a name, or more than it", () -> {
            error(VALUE, 4, "tag roo 1;");
            error(VALUE, 4, "tag oot 1;");
            error(VALUE, 4, "tag roott 1;");
            error(VALUE, 4, "tag aroot 1;");
        });
    }

    private static void tooMany() {
        String sentence = "TOO_MANY: a 41st folder or a 61st file (at the first word of the statement).";
        e.edge(sentence, "39 folders and the root", () -> {
            QuotaTree x = fine(Edges.folders(39));
            c.due(40, x.count(0));
        });
        e.edge(sentence, "40 folders and the root", () -> error(MANY, 39 * 15, Edges.folders(40)));
        e.edge(sentence, "60 files", () -> {
            QuotaTree x = fine(Edges.files(60));
            c.due(60, x.count(1));
        });
        e.edge(sentence, "61 files", () -> error(MANY, 720, Edges.files(61)));
        e.edge(sentence, "at the word, behind its spaces", () -> {
            error(MANY, 724, Edges.files(60) + "    file root 1;");
            error(MANY, 588, Edges.folders(39) + "   folder zz root;");
        });
        e.edge(sentence, "other statements may follow", () -> {
            fine(Edges.files(60) + "folder a root;tag a 1;grace 5;limit 1 1 1 1 1;");
            fine(Edges.folders(39) + "file root 1;tag root 1;grace 5;limit 1 1 1 1 1;");
        });
        e.edge(sentence, "the tree before does not count", () -> {
            QuotaTree x = fine(Edges.files(60));
            c.due(60, Checks.load(x, Edges.files(60)));
            c.due(0, Checks.load(x, Edges.folders(39)));
            c.due(40, x.count(0));
        });
        e.edge(sentence, "in front of an error behind the word", () -> {
            error(MANY, 720, Edges.files(60) + "file zz 1;");
            error(MANY, 720, Edges.files(60) + "file root 10000;");
            error(MANY, 585, Edges.folders(39) + "folder root root;");
        });
    }
}
