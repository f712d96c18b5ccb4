import java.util.NoSuchElementException;
import java.util.TreeSet;

/**
 * Tells all that an object shows and does from now on, so that two of them can be compared: what
 * cannot be seen at once (links, reads, depths, jobs) is seen by building. There are several lives,
 * each for an object of its own, which keeps every object below its 512 calls.
 */
final class Afterlife {
    static final int LIVES = 4;

    private static final int NONE = FileBuilder.NONE;
    private static final int FIRST_ENDS_ILL = 1;
    private static final int FILES_TOUCHED = 2;
    private static final int AS_IT_STANDS = 3;
    private static final int TARGETS = (1 << 19) - 1;

    private final FileBuilder x;
    private final StringBuilder text = new StringBuilder();
    private final TreeSet<Integer> running = new TreeSet<>();
    private boolean endsWell;

    private Afterlife(FileBuilder x, int life) {
        this.x = x;
        endsWell = life != FIRST_ENDS_ILL;
    }

    static String of(FileBuilder x, int life) {
        Afterlife after = new Afterlife(x, life);
        if (life == FILES_TOUCHED) {
            after.endTheBuild();
            after.buildAllAnew();
            after.touchFiles();
        } else if (life == AS_IT_STANDS) {
            after.endTheBuild();
            after.buildEachFile();
        } else {
            after.text.append(Scene.sight(x));
            after.endTheBuild();
            after.tellFiles();
            after.buildAllAnew();
            after.tellFiles();
            after.makeEdges();
        }
        return after.text.toString();
    }

    private void endTheBuild() {
        findRunning();
        runOn();
    }

    private void findRunning() {
        for (int e = 0; Scene.isEdge(x, e); e++) {
            if (x.about(e) == 2) {
                running.add(e);
            }
        }
    }

    private void runOn() {
        while (x.state() == 1) {
            for (int e = x.start(); e != NONE; e = x.start()) {
                text.append(" starts ").append(e);
                running.add(e);
            }
            if (running.isEmpty()) {
                text.append(" under way, but none runs and none can begin");
                return;
            }
            int e = running.pollFirst();
            text.append(" ends ").append(e).append(endsWell ? " well " : " ill ");
            text.append(x.finish(e, endsWell));
            endsWell = true;
        }
        text.append(" state ").append(x.state());
    }

    /** Files of lower numbers are newer, and no edge has a record: so all that is made is built. */
    private void buildAllAnew() {
        x.cut(0);
        for (int f = 23; f >= 0; f--) {
            write(f);
        }
        build(TARGETS);
    }

    private void write(int f) {
        try {
            x.write(f, 7000 + f);
        } catch (IllegalArgumentException byPhony) {
            text.append(" not written ").append(f);
        }
    }

    private void build(int targets) {
        try {
            text.append(" begins ").append(x.begin(targets, 4, 4));
        } catch (UnsupportedOperationException cycle) {
            text.append(" cycle");
        } catch (NoSuchElementException missing) {
            text.append(" missing");
        }
        runOn();
    }

    private void buildEachFile() {
        for (int f = 0; f < 24; f++) {
            build(1 << f);
        }
    }

    private void touchFiles() {
        for (int f = 0; f < 24; f++) {
            write(f);
            build(TARGETS);
        }
    }

    private void tellFiles() {
        for (int f = 0; f < 24; f++) {
            text.append(" file ").append(x.file(f, 0)).append('/').append(x.file(f, 2));
        }
    }

    private void makeEdges() {
        for (int n = 0; n < 13; n++) {
            try {
                text.append(" edge ").append(x.edge(1, 0, 0));
            } catch (IllegalStateException twelve) {
                text.append(" no edge");
                return;
            }
        }
    }
}
