import java.util.Random;

/** Long runs of drawn calls, each answered alike by the program and by the model; always the same runs. */
public final class ModelTest {
    private static final int RUNS = 2500;
    private static final int CALLS = 512;
    private static final int SEEN = 9;

    private final Random draw;
    private final Twins twins = new Twins();
    private final FileBuilder x = twins.program;
    private final int files;
    private final int edgesWanted;
    private final boolean tidy;
    private final boolean steady;
    private final int[] met;
    private int edges;
    private int made;

    private ModelTest(int seed, int[] met) {
        draw = new Random(seed);
        files = 5 + draw.nextInt(20);
        edgesWanted = 2 + draw.nextInt(11);
        tidy = draw.nextInt(8) != 0;
        steady = draw.nextBoolean();
        this.met = met;
    }

    public static void main(String[] args) {
        Due due = new Due("ModelTest");
        int[] met = new int[SEEN];
        for (int seed = 0; seed < RUNS; seed++) {
            ModelTest run = new ModelTest(seed, met);
            String fault = run.go();
            due.answers("run " + seed, fault == null, true);
            if (fault != null) {
                System.out.println(fault);
                break;
            }
        }
        checkThatRunsCameFar(due, met);
        due.end();
    }

    /** A drawn run proves little if it never got to what matters. */
    private static void checkThatRunsCameFar(Due due, int[] met) {
        String[] names = {"a build over well", "a build over otherwise", "edges let go",
            "a log written anew", "a cycle", "a file missing", "a log cut in a record",
            "two let go at once", "a second edge running"};
        for (int k = 0; k < names.length; k++) {
            System.out.println("ModelTest: met " + names[k] + " " + met[k] + " times");
            due.answers("met " + names[k] + " (" + met[k] + " times)", met[k] > 100, true);
        }
    }

    private String go() {
        for (int n = 0; n < CALLS; n++) {
            String drawn = n < 6 * edgesWanted ? drawLayout(n) : drawCall();
            String got = twins.ask(drawn);
            if (n % 8 == 0 || n == CALLS - 1) {
                twins.compare();
            }
            if (twins.fault() != null) {
                return twins.fault();
            }
            count(drawn, got);
        }
        met[3] += twins.model.anew;
        return null;
    }

    private void count(String drawn, String got) {
        if (drawn.startsWith("finish")) {
            met[0] += x.state() == 2 ? 1 : 0;
            met[1] += x.state() == 3 ? 1 : 0;
            boolean gone = !got.startsWith("throws") && !got.equals("0");
            met[2] += gone ? 1 : 0;
            met[7] += gone && Integer.parseInt(got) > 1 ? 1 : 0;
        }
        if (drawn.startsWith("edge") && !got.startsWith("throws")) {
            edges++;
        }
        if (drawn.startsWith("link") && drawn.split(" ")[2].equals("0") && !got.startsWith("throws")) {
            made |= 1 << Integer.parseInt(drawn.split(" ")[3]);
        }
        if (drawn.startsWith("begin")) {
            met[4] += got.endsWith("UnsupportedOperationException") ? 1 : 0;
            met[5] += got.endsWith("NoSuchElementException") ? 1 : 0;
        }
        if (drawn.startsWith("cut") && !got.startsWith("throws")) {
            met[6] += got.equals(drawn.split(" ")[1]) || got.equals("0") ? 0 : 1;
        }
        if (drawn.startsWith("start") && !got.equals("-1")) {
            int running = 0;
            for (int e = 0; e < edges; e++) {
                running += x.about(e) == 2 ? 1 : 0;
            }
            met[8] += running > 1 ? 1 : 0;
        }
    }

    private int near(int bound) {
        return draw.nextInt(60) == 0 ? (draw.nextBoolean() ? -1 : bound) : draw.nextInt(bound);
    }

    private String drawLayout(int n) {
        if (n < edgesWanted) {
            int flags = draw.nextInt(5) == 0 ? 1 : near(16);
            return "edge " + (draw.nextInt(8) == 0 ? 65535 : near(300)) + " " + flags + " " + near(3);
        }
        if (draw.nextInt(3) == 0) {
            return "write " + near(files) + " " + draw.nextInt(3);
        }
        return drawLink();
    }

    /** A tidy graph has its outputs above what they are made of, so that builds come about. */
    private String drawLink() {
        int e = near(Math.max(1, edges));
        int kind = near(4);
        int f = near(files);
        if (tidy) {
            int part = Math.max(1, files / (edgesWanted + 1));
            int low = Math.min((e + 1) * part, files - 1);
            f = kind == 0 ? low + draw.nextInt(Math.min(part, files - low))
                    : draw.nextInt(Math.max(1, low));
        }
        return "link " + e + " " + kind + " " + f;
    }

    private String drawCall() {
        if (x.state() == 1 && draw.nextInt(steady ? 60 : 8) != 0) {
            return drawInBuild();
        }
        if (steady && draw.nextInt(20) != 0) {
            return drawSteadyCall();
        }
        if (draw.nextInt(12) == 0) {
            return drawSteadyCall();
        }
        switch (draw.nextInt(16)) {
            case 0:
                return "edge " + near(65536) + " " + near(16) + " " + near(3);
            case 1:
                return drawLink();
            case 2:
                return "reads " + near(Math.max(1, edges)) + " " + near(files) + " "
                        + (draw.nextInt(3) == 0 ? "no" : "yes");
            case 3:
                return "command " + near(Math.max(1, edges)) + " " + near(65536);
            case 4:
                return "pool " + (1 + near(2)) + " " + (1 + near(4));
            case 5:
            case 6:
            case 7:
                return "write " + near(files) + " " + draw.nextInt(3);
            case 8:
                return "remove " + near(files);
            case 9:
                return drawLogCall();
            default:
                return "begin " + drawTargets() + " " + (1 + near(4)) + " " + (1 + near(4));
        }
    }

    /** Builds of all there is, again and again, fill the log and let edges go. */
    private String drawSteadyCall() {
        for (int f = 0; f < files; f++) {
            if ((made & 1 << f) == 0 && x.file(f, 1) == 0) {
                return "write " + f + " 1";
            }
        }
        switch (draw.nextInt(5)) {
            case 0:
                return "write " + near(files) + " " + draw.nextInt(2);
            case 1:
                return "write " + draw.nextInt(Math.max(1, files / (edgesWanted + 1))) + " 1";
            case 2:
                return "command " + near(Math.max(1, edges)) + " " + draw.nextInt(2);
            default:
                return "begin " + (made == 0 ? 1 : made) + " " + (1 + near(4)) + " " + (1 + near(4));
        }
    }

    private String drawLogCall() {
        switch (draw.nextInt(4)) {
            case 0:
                return "cut " + (draw.nextInt(3) == 0 ? 400 : near(300));
            case 1:
                return "spoil " + near(400) + " " + (draw.nextInt(600) - 300);
            case 2:
                // A byte that is 0 may become 251 unseen by the check.
                return "spoil " + near(120) + " 251";
            default:
                return "log " + near(400);
        }
    }

    private int drawTargets() {
        int targets = draw.nextInt(3) == 0 ? made : 0;
        for (int n = draw.nextInt(4); n >= 0; n--) {
            targets |= 1 << draw.nextInt(files);
        }
        return draw.nextInt(60) == 0 ? targets | 1 << 24 : targets;
    }

    private String drawInBuild() {
        switch (draw.nextInt(7)) {
            case 0:
                return draw.nextBoolean() ? "about " + near(Math.max(1, edges))
                        : "spoil " + near(400) + " " + draw.nextInt(256);
            case 1:
            case 2:
            case 3:
                return "start";
            default:
                return "finish " + drawRunning() + " " + (draw.nextInt(20) == 0 ? "no" : "yes");
        }
    }

    private int drawRunning() {
        int from = draw.nextInt(12);
        for (int k = 0; k < 12; k++) {
            int e = (from + k) % 12;
            if (e < edges && x.about(e) == 2) {
                return e;
            }
        }
        return near(12);
    }
}
