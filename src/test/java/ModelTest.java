import java.util.ArrayList;
import java.util.Arrays;
import java.util.Collections;
import java.util.List;
import java.util.Random;

/**
 * Runs of calls with a fixed seed, each answered by the class and by the model alike. An object gets
 * no more calls than the document allows it.
 */
public final class ModelTest {

    private static final int RUNS = 4000;
    private static final int CALLS = 512;
    /** Changes stand here more often than questions, of which Observed asks some behind each change. */
    private static final String[] NAMES = {
        "write", "write", "write", "write", "write", "resize", "resize", "resize", "delete",
        "moveFile", "moveFile", "moveFolder", "moveFolder", "tag", "tag", "addFolder", "addFolder",
        "removeFolder", "setLimit", "setLimit", "setLimit", "setGrace", "tick", "tick", "gift", "gift",
        "gift", "gift", "gift", "endGift", "adjust", "adjust", "repair", "undo", "undo", "load", "append",
        "errorPosition", "count", "find", "folder", "walked", "heaviest", "tagReason", "moveReason",
        "file", "writeReason", "room", "greatest", "used", "counted", "limit", "state", "graceLeft",
        "nextEvent", "share", "giftOf", "writePath", "writeAccounts", "writtenByte"};
    private static final int[] WILD = {Integer.MIN_VALUE, -10000, -9999, -2, -1, 0, 1, 8, 40, 60, 99, 100,
        999, 1000, 9999, 10000, 99999, 100000, 999999, Integer.MAX_VALUE};

    private final Random random;
    private final Caller real = Caller.of(new QuotaTree());
    private final Caller model = new Model();
    private final List<String> told = new ArrayList<>();
    private int calls;

    private ModelTest(int seed) {
        random = new Random(seed);
    }

    public static void main(String[] args) {
        int runs = args.length > 0 ? Integer.parseInt(args[0]) : RUNS;
        Checks checks = new Checks();
        checks.begin("runs against the model");
        for (int seed = 0; seed < runs; seed++) {
            ModelTest run = new ModelTest(seed);
            String fault = run.fault();
            checks.due("", fault);
            if (!fault.isEmpty()) {
                System.out.println("run " + seed + ": " + String.join("\n  ", run.told));
                break;
            }
        }
        checks.close("ModelTest");
    }

    /** Some steps, then questions with all the calls that are left. */
    private String fault() {
        String fault = random.nextInt(4) > 0 ? loadText(richText(), 0) : "";
        int steps = 40 + random.nextInt(CALLS);
        while (calls < steps && calls < CALLS && fault.isEmpty()) {
            fault = step();
        }
        return fault.isEmpty() ? observed(CALLS) : fault;
    }

    private String observed(int howMany) {
        List<Observed.Question> questions = Observed.questions(model);
        Collections.shuffle(questions, random);
        String fault = "";
        for (int i = 0; i < howMany && i < questions.size() && fault.isEmpty(); i++) {
            fault = both(questions.get(i).name(), questions.get(i).arguments());
        }
        return fault;
    }

    private String step() {
        String name = NAMES[random.nextInt(NAMES.length)];
        String fault = "";
        if (name.equals("load")) {
            return random.nextInt(9) > 0 ? "" : loadText(text(random.nextInt(40), random.nextInt(3)), some(3) / 2 * some(9));
        }
        if (name.equals("undo") && random.nextInt(4) == 0) {
            for (int i = random.nextInt(10); i >= 0 && fault.isEmpty(); i--) {
                fault = both("undo");
            }
            return fault.isEmpty() ? observed(20) : fault;
        }
        fault = both(name, arguments(name));
        return fault.isEmpty() && some(4) == 0 ? observed(4) : fault;
    }

    private String both(String name, long... arguments) {
        if (calls == CALLS) {
            return "";
        }
        calls++;
        told.add(name + Arrays.toString(arguments));
        return differing(name, Checks.answer(() -> model.call(name, arguments)),
                Checks.answer(() -> real.call(name, arguments)));
    }

    private static String differing(String what, String due, String got) {
        return due.equals(got) ? "" : what + ": due is " + due + ", answered " + got;
    }

    private int there(int what) {
        return (int) model.call("count", what);
    }

    private int some(int bound) {
        return bound > 0 ? random.nextInt(bound) : 0;
    }

    private long folder() {
        return some(30) == 0 ? there(0) : some(there(0));
    }

    private long file() {
        return some(30) == 0 ? there(1) : some(there(1));
    }

    private long project() {
        return some(4) == 0 ? some(8) : some(3);
    }

    private long blocks() {
        return some(10) == 0 ? some(10000) : some(6) == 0 ? 0 : some(200);
    }

    private long ticks() {
        return some(10) == 0 ? some(999) + 1 : some(6) + 1;
    }

    private long name() {
        long name = some(25) + 1;
        for (int letters = some(2); letters > 0; letters--) {
            name = name << 5 | some(3) + 1;
        }
        return name;
    }

    private long[] arguments(String name) {
        long[] arguments = sound(name);
        if (arguments.length > 0 && some(25) == 0) {
            int which = some(arguments.length);
            boolean letters = which == 1 && name.equals("addFolder") || name.equals("find");
            arguments[which] = letters ? random.nextLong() >>> some(64) : WILD[some(WILD.length)];
        }
        return arguments;
    }

    private long[] sound(String name) {
        switch (name) {
            case "append": return random.ints(5).mapToLong(i -> i).toArray();
            case "count": return new long[] {some(8)};
            case "find": return new long[] {name()};
            case "folder": return new long[] {folder(), some(10)};
            case "walked": case "heaviest": case "removeFolder": case "room": case "writePath":
                return new long[] {folder()};
            case "addFolder": return new long[] {folder(), name()};
            case "tagReason": case "tag":
                return new long[] {folder(), some(3) == 0 ? -1 : project()};
            case "moveReason": case "moveFolder": return new long[] {folder(), folder()};
            case "file": return new long[] {file(), some(3)};
            case "writeReason": case "write": return new long[] {folder(), blocks()};
            case "resize": return new long[] {file(), blocks()};
            case "delete": return new long[] {file()};
            case "moveFile": return new long[] {file(), folder()};
            case "greatest": case "writeAccounts": return new long[] {project()};
            case "limit": return new long[] {project(), some(2), some(2)};
            case "setLimit": return limits();
            case "setGrace": return new long[] {some(10) == 0 ? some(99) + 1 : some(6) + 1};
            case "tick": return new long[] {ticks()};
            case "gift":
                long giver = some(3);
                return new long[] {giver, some(9) == 0 ? project() : (giver + 1 + some(2)) % 3, some(9) == 0 ? some(9999) + 1 : some(60) + 1, ticks()};
            case "giftOf": return new long[] {some(there(5) + 1), some(4)};
            case "endGift": return new long[] {some(there(5) + 1)};
            case "adjust": return new long[] {project(), some(2), some(5) == 0 ? some(19999) - 9999 : some(60) - 30};
            case "writtenByte": return new long[] {some(25)};
            case "errorPosition": case "nextEvent": case "repair": case "undo": return new long[0];
            default: return new long[] {project(), some(2)};
        }
    }

    private long[] limits() {
        long project = project();
        int kind = some(2);
        int used = (int) model.call("used", project, kind);
        int soft = some(4) == 0 ? 0 : Math.min(99999, Math.max(0, used + some(60) - 20));
        int hard = some(4) == 0 ? 0 : Math.min(99999, soft + some(kind == 0 ? 300 : 10) - some(4));
        return new long[] {project, kind, soft, Math.max(0, hard)};
    }

    /** Limits that bite, and names enough for files and tags to meet them. */
    private String richText() {
        StringBuilder rich = new StringBuilder("grace " + (some(9) + 1) + ";");
        for (int project = 0; project < 3; project++) {
            int soft = some(3) == 0 ? 0 : some(400);
            int files = some(3) == 0 ? 0 : some(8);
            rich.append("limit ").append(project).append(' ').append(soft).append(' ').append(soft + 1 + some(900))
                    .append(' ').append(files).append(' ').append(some(2) * (files + some(8))).append(';');
        }
        rich.append("folder a root;folder b root;folder c root;folder ac a;tag a 0;tag b 1;tag c 2;");
        return rich.toString();
    }

    private String text(int statements, int faults) {
        StringBuilder text = new StringBuilder();
        List<String> names = new ArrayList<>(List.of("root"));
        for (int i = 0; i < statements && text.length() < 860; i++) {
            text.append(statement(names)).append(some(4) == 0 ? " ;" : ";").append(some(3) == 0 ? "  " : "");
        }
        for (int i = 0; i < faults && text.length() > 0; i++) {
            int at = some(text.length());
            switch (some(4)) {
                case 0: text.setLength(at); break;
                case 1: text.deleteCharAt(at); break;
                case 2: text.insert(at, "; 0a9z\t\u00ff".charAt(some(8))); break;
                default: text.setCharAt(at, "; 0a9z\t\u00ff".charAt(some(8)));
            }
        }
        return text.length() > 900 ? text.substring(0, 900) : text.toString();
    }

    private String statement(List<String> names) {
        String known = names.get(some(names.size()));
        switch (some(12)) {
            case 0: return "grace " + (some(9) == 0 ? some(120) : some(9) + 1);
            case 1: case 2:
                int soft = some(3) == 0 ? 0 : some(300);
                return "limit " + (some(15) == 0 ? some(10) : project()) + " " + soft + " "
                        + (some(3) == 0 ? 0 : soft + some(200) - some(12) / 11) + " " + some(4) + " " + (some(8) + 3);
            case 3: case 4: case 5:
                String name = some(40) == 0 ? known : Model.letters(name());
                names.add(name);
                return "folder " + name + " " + (some(40) == 0 ? "nobody" : known);
            case 6: case 7: return "tag " + known + (some(2) == 0 ? " " : "") + project();
            default: return "file " + known + " " + blocks();
        }
    }

    /** Loads the text without its last bytes. */
    private String loadText(String text, int without) {
        told.add("text " + text);
        String fault = both("load", 0);
        for (int at = 0; at < text.length() && fault.isEmpty(); at += 20) {
            long[] words = new long[5];
            for (int i = 0; i < 20; i++) {
                int sign = at + i < text.length() ? text.charAt(at + i) & 255 : some(256);
                words[i / 4] = (int) (words[i / 4] << 8 | sign);
            }
            fault = both("append", words);
        }
        fault = fault.isEmpty() ? both("load", Math.max(0, text.length() - without)) : fault;
        return fault.isEmpty() ? both("errorPosition") : fault;
    }
}
