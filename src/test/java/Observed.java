import java.util.ArrayList;
import java.util.List;

/** Everything that the calls tell of a tree without changing it: the questions, and the answers as one text. */
final class Observed {

    /** Names that the tests' trees use. */
    private static final String[] NAMES = {"root", "a", "b", "d", "f", "x", "new", "usr", "home", "ann", "bob", "empty"};

    record Question(String name, long... arguments) {

        String answer(Caller x) {
            return Checks.answer(() -> x.call(name, arguments));
        }

        String told() {
            StringBuilder told = new StringBuilder(name);
            for (long argument : arguments) {
                told.append(' ').append(argument);
            }
            return told.toString();
        }
    }

    private Observed() {
    }

    static String of(QuotaTree tree) {
        Caller x = Caller.of(tree);
        StringBuilder all = new StringBuilder();
        for (Question question : questions(x)) {
            all.append(question.told()).append(": ").append(question.answer(x)).append('\n');
        }
        return all.toString();
    }

    /** The questions for a tree that has as many folders, files and gifts as this one. */
    static List<Question> questions(Caller x) {
        List<Question> all = new ArrayList<>();
        for (int what = 0; what < 8; what++) {
            all.add(new Question("count", what));
        }
        of(all, "folder", x.call("count", 0), 10);
        for (String name : new String[] {"walked", "room", "heaviest"}) {
            of(all, name, x.call("count", 0));
        }
        of(all, "file", x.call("count", 1), 3);
        of(all, "giftOf", x.call("count", 5), 4);
        for (String name : new String[] {"used", "counted", "state", "graceLeft", "share"}) {
            of(all, name, 8, 2);
        }
        for (int account = 0; account < 16; account++) {
            all.add(new Question("limit", account / 2, account % 2, 0));
            all.add(new Question("limit", account / 2, account % 2, 1));
        }
        of(all, "greatest", 8);
        for (String name : NAMES) {
            all.add(new Question("find", Checks.name(name)));
        }
        all.add(new Question("nextEvent"));
        return all;
    }

    private static void of(List<Question> all, String name, long numbers) {
        for (int number = 0; number < numbers; number++) {
            all.add(new Question(name, number));
        }
    }

    private static void of(List<Question> all, String name, long numbers, int whats) {
        for (int number = 0; number < numbers; number++) {
            for (int what = 0; what < whats; what++) {
                all.add(new Question(name, number, what));
            }
        }
    }
}
