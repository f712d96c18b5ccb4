/**
 * Every graph of three edges in a row, with every choice of some flags and kinds of links, built,
 * met by every pair of events and built again after each: what drawn runs may leave out.
 */
public final class SmallWorldsTest {
    private static final int EDGES = 3;
    private static final int[] FLAGS = {0, 1, 2, 4, 8, 14};
    private static final int[] KINDS = {1, 3};
    private static final String[][] EVENTS = {
        {"write 0 1"}, {"write 0 2"}, {"remove 4"}, {"command 0 9"}, {"write 1 7"}, {"remove 1"},
        {"cut 20"}, {"spoil 3 251", "cut 400"}, {"spoil 9 1", "cut 400"}, {"reads 1 1 no"},
        {"write 5 3"}, {"write 7 3"}};
    /** Jobs, failures that are let be, and which of the edges that end is the one that fails. */
    private static final int[][] BUILDS = {
        {1, 1, -1}, {2, 1, -1}, {3, 2, -1}, {1, 1, 0}, {2, 2, 0}, {2, 1, 1}, {1, 4, 1}, {3, 1, 2}};

    private final Twins twins = new Twins();

    public static void main(String[] args) {
        Due due = new Due("SmallWorldsTest");
        for (int choice = 0; choice < FLAGS.length * FLAGS.length * FLAGS.length; choice++) {
            for (int links = 0; links < KINDS.length * KINDS.length; links++) {
                String fault = firstFault(choice, links);
                due.answers("the first fault", String.valueOf(fault), "null");
            }
        }
        due.end();
    }

    private static String firstFault(int choice, int links) {
        for (int events = 0; events < EVENTS.length * EVENTS.length; events++) {
            SmallWorldsTest world = new SmallWorldsTest();
            world.live(choice, links, events);
            if (world.twins.fault() != null) {
                return world.twins.fault();
            }
        }
        return null;
    }

    private void live(int choice, int links, int events) {
        // Pools and builds go round with the worlds: all of each with all of the rest were too many.
        int turn = choice + links + events;
        layOut(choice, links, turn % 2);
        build(BUILDS[0]);
        meet(EVENTS[events % EVENTS.length]);
        build(BUILDS[turn % BUILDS.length]);
        meet(EVENTS[events / EVENTS.length]);
        build(BUILDS[(turn / BUILDS.length + choice) % BUILDS.length]);
        build(BUILDS[0]);
        // Only once, so that no world asks an object more than the 512 calls that are promised.
        twins.compare();
    }

    private void layOut(int choice, int links, int pool) {
        int rest = choice;
        for (int e = 0; e < EDGES; e++) {
            twins.ask("edge " + (7 + e) + " " + FLAGS[rest % FLAGS.length] + " " + pool);
            twins.ask("link " + e + " 0 " + (4 + e));
            rest /= FLAGS.length;
        }
        twins.ask("link 0 1 0");
        twins.ask("link 1 " + KINDS[links % KINDS.length] + " 4");
        twins.ask("link 2 " + KINDS[links / KINDS.length] + " 5");
        twins.ask("link 2 3 7");
        twins.ask("reads 1 1 yes");
        twins.ask("write 0 1");
        twins.ask("write 1 1");
        twins.ask("write 7 1");
    }

    private void meet(String[] events) {
        for (String event : events) {
            twins.ask(event);
            twins.compareBuilds();
        }
    }

    private void build(int[] how) {
        twins.ask("begin " + (1 << 5 | 1 << 6) + " " + how[0] + " " + how[1]);
        for (int ended = 0; ended <= EDGES && twins.program.state() == 1; ended++) {
            // Once more than there are jobs, to see that one too many does not begin.
            for (int job = 0; job <= how[0]; job++) {
                twins.ask("start");
            }
            twins.ask("finish " + lastThatRuns() + (ended == how[2] ? " no" : " yes"));
            twins.compareBuilds();
        }
    }

    private int lastThatRuns() {
        int last = FileBuilder.NONE;
        for (int e = 0; e < EDGES; e++) {
            if (twins.program.about(e) == 2) {
                last = e;
            }
        }
        return last;
    }
}
