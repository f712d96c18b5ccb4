import java.util.ArrayList;
import java.util.List;
import java.util.NoSuchElementException;

/** The program and the model, asked the same calls; a call is told as its name and its numbers. */
final class Twins {
    final FileBuilder program = new FileBuilder();
    final Model model = new Model();
    private final List<String> calls = new ArrayList<>();
    private int edges;
    private String fault;

    /** Asks both, and answers what the program answered. */
    String ask(String call) {
        calls.add(call);
        String[] words = call.split(" ");
        int[] numbers = new int[4];
        for (int k = 1; k < words.length; k++) {
            numbers[k] = numberOf(words[k]);
        }
        String got = answer(words[0], numbers, true);
        String want = answer(words[0], numbers, false);
        if (!got.equals(want)) {
            tell("answered " + got + ", the model says " + want);
        }
        if (words[0].equals("edge") && !got.startsWith("throws")) {
            edges++;
        }
        return got;
    }

    void compareBuilds() {
        if (program.state() != model.state()) {
            tell("then state() answered " + program.state());
        }
        for (int e = 0; e < edges; e++) {
            if (program.about(e) != model.about(e)) {
                tell("then about(" + e + ") answered " + program.about(e));
            }
        }
    }

    /** Looks at all that can be seen of both, which takes some hundred calls. */
    void compare() {
        compareBuilds();
        for (int e = 0; e < edges; e++) {
            if (program.commandOf(e) != model.commandOf(e)) {
                tell("then commandOf(" + e + ") answered " + program.commandOf(e));
            }
        }
        for (int f = 0; f < 24; f++) {
            for (int what = 0; what < 4; what++) {
                if (program.file(f, what) != model.file(f, what)) {
                    tell("then file(" + f + ", " + what + ") answered " + program.file(f, what));
                }
            }
        }
        int k = -1;
        do {
            if (program.log(k) != model.log(k)) {
                tell("then log(" + k + ") answered " + program.log(k));
                return;
            }
            k++;
        } while (model.log(k) != FileBuilder.NONE || program.log(k) != FileBuilder.NONE);
    }

    /** The first difference, told with the calls before it; null if there is none. */
    String fault() {
        return fault;
    }

    private void tell(String text) {
        if (fault == null) {
            fault = calls + " " + text;
        }
    }

    private static int numberOf(String word) {
        return word.equals("yes") ? 1 : word.equals("no") ? 0 : Integer.parseInt(word);
    }

    private String answer(String name, int[] a, boolean ofProgram) {
        try {
            return "" + (ofProgram ? ofProgram(name, a) : ofModel(name, a));
        } catch (IllegalArgumentException | IllegalStateException | UnsupportedOperationException
                | NoSuchElementException e) {
            return "throws." + e.getClass().getSimpleName();
        }
    }

    private int ofProgram(String name, int[] a) {
        switch (name) {
            case "edge": return program.edge(a[1], a[2], a[3]);
            case "link": program.link(a[1], a[2], a[3]); return 0;
            case "reads": program.reads(a[1], a[2], a[3] == 1); return 0;
            case "command": program.command(a[1], a[2]); return 0;
            case "pool": program.pool(a[1], a[2]); return 0;
            case "write": program.write(a[1], a[2]); return 0;
            case "remove": program.remove(a[1]); return 0;
            case "begin": return program.begin(a[1], a[2], a[3]);
            case "start": return program.start();
            case "finish": return program.finish(a[1], a[2] == 1);
            case "about": return program.about(a[1]);
            case "log": return program.log(a[1]);
            case "cut": return program.cut(a[1]);
            case "spoil": return program.spoil(a[1], a[2]) ? 1 : 0;
            default: throw new AssertionError(name);
        }
    }

    private int ofModel(String name, int[] a) {
        switch (name) {
            case "edge": return model.edge(a[1], a[2], a[3]);
            case "link": model.link(a[1], a[2], a[3]); return 0;
            case "reads": model.reads(a[1], a[2], a[3] == 1); return 0;
            case "command": model.command(a[1], a[2]); return 0;
            case "pool": model.pool(a[1], a[2]); return 0;
            case "write": model.write(a[1], a[2]); return 0;
            case "remove": model.remove(a[1]); return 0;
            case "begin": return model.begin(a[1], a[2], a[3]);
            case "start": return model.start();
            case "finish": return model.finish(a[1], a[2] == 1);
            case "about": return model.about(a[1]);
            case "log": return model.log(a[1]);
            case "cut": return model.cut(a[1]);
            case "spoil": return model.spoil(a[1], a[2]) ? 1 : 0;
            default: throw new AssertionError(name);
        }
    }
}
