/** What the project's tests share: texts, names, and counting what is not as it is due. */
final class Checks {

    interface Call {
        long run();
    }

    private int wrong;
    private String title = "";

    void begin(String newTitle) {
        title = newTitle;
    }

    /** Ends the program with 1 if something was wrong. */
    void close(String test) {
        if (wrong > 0) {
            System.out.println(test + ": " + wrong + " wrong");
            System.exit(1);
        }
        System.out.println(test + ": all as due");
    }

    void due(long due, long got) {
        if (due != got) {
            tell("answered " + got + ", due is " + due);
        }
    }

    void due(String due, String got) {
        if (!due.equals(got)) {
            tell("answered " + got + ", due is " + due);
        }
    }

    void due(boolean due, boolean got) {
        due(Boolean.toString(due), Boolean.toString(got));
    }

    void index(Call call) {
        due("throws.IndexOutOfBoundsException", answer(call));
    }

    void argument(Call call) {
        due("throws.IllegalArgumentException", answer(call));
    }

    void state(Call call) {
        due("throws.IllegalStateException", answer(call));
    }

    void element(Call call) {
        due("throws.NoSuchElementException", answer(call));
    }

    static String answer(Call call) {
        try {
            return Long.toString(call.run());
        } catch (RuntimeException e) {
            return "throws." + e.getClass().getSimpleName();
        }
    }

    private void tell(String fault) {
        wrong++;
        StackTraceElement[] stack = new Throwable().getStackTrace();
        int line = 0;
        for (StackTraceElement element : stack) {
            if (!element.getClassName().equals("Checks")) {
                line = element.getLineNumber();
                break;
            }
        }
        System.out.println(title + ", line " + line + ": " + fault);
    }

    /** Appends the text, with spaces behind it up to the next 20 bytes; answers its length. */
    static int put(QuotaTree tree, String text) {
        for (int at = 0; at < text.length(); at += 20) {
            int[] words = new int[5];
            for (int i = 0; i < 20; i++) {
                int sign = at + i < text.length() ? text.charAt(at + i) & 255 : ' ';
                words[i / 4] = words[i / 4] << 8 | sign;
            }
            tree.append(words[0], words[1], words[2], words[3], words[4]);
        }
        return text.length();
    }

    static int load(QuotaTree tree, String text) {
        return tree.load(put(tree, text));
    }

    static QuotaTree tree(String text) {
        QuotaTree tree = new QuotaTree();
        int code = load(tree, text);
        if (code < 0) {
            throw new IllegalStateException("a test's text has an error at " + tree.errorPosition());
        }
        return tree;
    }

    static long name(String letters) {
        long name = 0;
        for (int i = 0; i < letters.length(); i++) {
            name = name << 5 | letters.charAt(i) - 'a' + 1;
        }
        return name;
    }

    static String written(QuotaTree tree, int length) {
        StringBuilder text = new StringBuilder();
        for (int i = 0; i < length; i++) {
            text.append((char) tree.writtenByte(i));
        }
        return text.toString();
    }
}
