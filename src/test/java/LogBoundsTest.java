/** The boundary cases of the log: empty, full, written anew, cut anywhere, spoilt anyhow. */
public final class LogBoundsTest {
    private static final int NONE = FileBuilder.NONE;
    private static final int RESTAT = 2;
    private static final int READER = 8;

    private static final int ONE = 3;
    private static final int FIRST_OF_TEN = 10;

    private final Due due = new Due("LogBoundsTest");

    public static void main(String[] args) {
        LogBoundsTest test = new LogBoundsTest();
        test.emptyLog();
        test.cutOfAnEmptyLog();
        test.bytesOfARecord();
        test.checkByte();
        test.fiftyRecords();
        test.writtenAnewByOutputs();
        test.writtenAnewWith24Outputs();
        test.writtenAnewAmongOutputs();
        test.fullWithTheLastOutput();
        test.writtenAnewAgainAndAgain();
        test.roomAfterACut();
        test.anewWithWhatWasReadAgain();
        test.anewWithoutWhatWasLost();
        test.anewWithoutSpoiltBytes();
        test.cutOfAFullLog();
        test.cutAroundEachRecord();
        test.cutAgain();
        test.lostBytesStayLost();
        test.lastRecordThatIsKeptCounts();
        test.cutForgetsReads();
        test.cutForgetsTheBuild();
        test.spoiltRecordEndsTheLog();
        test.spoiltBehindTheCut();
        test.spoiltAndMended();
        test.spoiltWithTheSame();
        test.spoilHasEightBits();
        test.spoilAtTheEnds();
        test.spoilInABuild();
        test.outputThatIsNoFile();
        test.checkBytesThatAreNone();
        test.timeOfFourBytes();
        test.timeBelowZero();
        test.due.end();
    }

    /** Edge 0 makes ten files, which is ten records a build; edge 1 makes one. */
    private static FileBuilder withRecords(int records) {
        FileBuilder x = new FileBuilder();
        x.edge(0, 0, 0);
        for (int f = FIRST_OF_TEN; f < FIRST_OF_TEN + 10; f++) {
            x.link(0, Scene.OUTPUT, f);
        }
        x.edge(0, 0, 0);
        x.link(1, Scene.OUTPUT, ONE);
        for (int n = 0; n < records / 10; n++) {
            x.command(0, 1 + n);
            Scene.buildAll(x, 1 << FIRST_OF_TEN);
        }
        for (int n = 0; n < records % 10; n++) {
            addOne(x, 200 + n);
        }
        return x;
    }

    private static void addOne(FileBuilder x, int command) {
        x.command(1, command);
        Scene.buildAll(x, 1 << ONE);
    }

    private void hasBytes(String when, FileBuilder x, int bytes) {
        due.answers("a byte before the end, " + when, x.log(bytes - 1) != NONE, bytes > 0);
        due.answers("no byte at the end, " + when, x.log(bytes), NONE);
    }

    private void hasRecord(FileBuilder x, int record, int output, int command) {
        due.answers("output of record " + record, x.log(8 * record), output);
        due.answers("command of record " + record,
                x.log(8 * record + 1) * 256 + x.log(8 * record + 2), command);
    }

    private void emptyLog() {
        due.sentence("log: NONE when there is none; an empty log has no byte");
        FileBuilder x = new FileBuilder();
        int[] bytes = {Integer.MIN_VALUE, -1, 0, 1, 7, 8, 399, 400, Integer.MAX_VALUE};
        for (int k : bytes) {
            due.answers("log(" + k + ")", x.log(k), NONE);
            due.answers("spoil(" + k + ")", x.spoil(k, 1), false);
        }
        for (int f = 0; f < 24; f++) {
            due.answers("time of a record", x.file(f, 2), NONE);
            due.answers("command of a record", x.file(f, 3), NONE);
        }
    }

    private void cutOfAnEmptyLog() {
        due.sentence("cut: answers how many bytes the log has");
        int[] cuts = {0, 1, 7, 8, 400, Integer.MAX_VALUE};
        for (int n : cuts) {
            FileBuilder x = withRecords(0);
            due.answers("cut(" + n + ")", x.cut(n), 0);
            due.answers("log(0)", x.log(0), NONE);
            addOne(x, 5);
            hasRecord(x, 0, ONE, 5);
            hasBytes("after one record", x, 8);
        }
    }

    private void bytesOfARecord() {
        due.sentence("RECORDS of 8 bytes (numbers with the higher byte first)");
        FileBuilder x = new FileBuilder();
        Scene.edge(x, 0xFEDC, 0, 0, 22, 23);
        for (int n = 0; n < 257; n++) {
            x.write(22, n);
        }
        Scene.buildAll(x, 1 << 23);
        int[] want = {23, 0xFE, 0xDC, 0, 0, 1, 1, (23 + 0xFE + 0xDC + 1 + 1) % 251};
        for (int k = 0; k < 8; k++) {
            due.answers("byte " + k, x.log(k), want[k]);
        }
        due.answers("byte 8", x.log(8), NONE);
        due.answers("the time", x.file(23, 2), 257);
        due.answers("the command", x.file(23, 3), 0xFEDC);
    }

    private void checkByte() {
        due.sentence("a check byte, the sum of the seven before modulo 251");
        int[][] rows = {{0, 0}, {250, 250}, {251, 0}, {252, 1}, {255, 4}, {256, 1}, {65535, 8}};
        for (int[] row : rows) {
            FileBuilder x = new FileBuilder();
            x.edge(row[0], 0, 0);
            x.link(0, Scene.OUTPUT, 0);
            Scene.buildAll(x, 1);
            due.answers("check of command " + row[0], x.log(7), row[1]);
            due.answers("it is right", x.cut(8), 8);
            due.answers("and counts", x.file(0, 3), row[0]);
        }
    }

    private void fiftyRecords() {
        due.sentence("It has at most 50 records");
        FileBuilder x = withRecords(49);
        hasBytes("with 49", x, 392);
        addOne(x, 900);
        hasBytes("with 50", x, 400);
        hasRecord(x, 49, ONE, 900);
        hasRecord(x, 0, FIRST_OF_TEN, 1);
        addOne(x, 901);
        due.sentence("when there is no room it is written anew first");
        hasBytes("with the 51st", x, 8 * 12);
        hasRecord(x, 11, ONE, 901);
    }

    private void writtenAnewByOutputs() {
        due.sentence("written anew, only with the record that counts for each output, by outputs");
        FileBuilder x = withRecords(50);
        addOne(x, 900);
        hasRecord(x, 0, FIRST_OF_TEN, 5);
        hasBytes("with no record of the one before", x, 8 * 11);
        for (int n = 1; n < 10; n++) {
            hasRecord(x, n, FIRST_OF_TEN + n, 5);
        }
        hasRecord(x, 10, ONE, 900);
        due.answers("it is right", x.cut(400), 8 * 11);
        FileBuilder y = withRecords(48);
        addOne(y, 300);
        addOne(y, 301);
        addOne(y, 302);
        hasBytes("with a record of the one before", y, 8 * 12);
        hasRecord(y, 0, ONE, 301);
        hasRecord(y, 1, FIRST_OF_TEN, 4);
        hasRecord(y, 11, ONE, 302);
        due.answers("the last counts", y.file(ONE, 3), 302);
    }

    private void writtenAnewWith24Outputs() {
        due.sentence("for each output: all 24 files may be outputs");
        FileBuilder x = new FileBuilder();
        for (int e = 0; e < 12; e++) {
            x.edge(e, 0, 0);
            x.link(e, Scene.OUTPUT, 23 - e);
            x.link(e, Scene.OUTPUT, e);
        }
        Scene.buildAll(x, 0xFFF);
        for (int e = 0; e < 12; e++) {
            x.command(e, 100 + e);
        }
        Scene.buildAll(x, 0xFFF);
        hasBytes("with 48", x, 384);
        x.command(11, 200);
        Scene.buildAll(x, 1 << 11);
        hasBytes("with 50", x, 400);
        x.command(0, 300);
        Scene.buildAll(x, 1);
        hasBytes("with the 51st and the 52nd", x, 8 * 26);
        for (int f = 0; f < 24; f++) {
            int e = Math.min(f, 23 - f);
            hasRecord(x, f, f, e == 11 ? 200 : 100 + e);
        }
        hasRecord(x, 24, 0, 300);
        hasRecord(x, 25, 23, 300);
        due.answers("all is right", x.cut(208), 208);
    }

    private void writtenAnewAmongOutputs() {
        due.sentence("when there is no room: looked at for each record of an edge");
        FileBuilder x = withRecords(43);
        x.command(0, 77);
        Scene.buildAll(x, 1 << FIRST_OF_TEN);
        hasBytes("after seven and three", x, 8 * 14);
        hasRecord(x, 0, ONE, 202);
        for (int n = 0; n < 10; n++) {
            hasRecord(x, 1 + n, FIRST_OF_TEN + n, n < 7 ? 77 : 4);
        }
        for (int n = 7; n < 10; n++) {
            hasRecord(x, 4 + n, FIRST_OF_TEN + n, 77);
        }
    }

    private void fullWithTheLastOutput() {
        due.sentence("when there is no room: fifty by the last output of an edge is room enough");
        FileBuilder x = withRecords(40);
        x.command(0, 77);
        Scene.buildAll(x, 1 << FIRST_OF_TEN);
        hasBytes("full", x, 400);
        hasRecord(x, 0, FIRST_OF_TEN, 1);
        hasRecord(x, 49, FIRST_OF_TEN + 9, 77);
    }

    private void writtenAnewAgainAndAgain() {
        due.sentence("It has at most 50 records, however often it was full");
        FileBuilder x = withRecords(50);
        for (int n = 0; n < 8; n++) {
            x.command(0, 500 + n);
            Scene.buildAll(x, 1 << FIRST_OF_TEN);
            int records = 20 + n % 4 * 10;
            hasBytes("after " + n + " builds more", x, 8 * records);
            hasRecord(x, records - 1, FIRST_OF_TEN + 9, 500 + n);
        }
    }

    private void roomAfterACut() {
        due.sentence("when there is no room: a cut makes room");
        FileBuilder x = withRecords(50);
        due.answers("cut in the last record", x.cut(399), 392);
        addOne(x, 900);
        hasBytes("with one in its place", x, 400);
        hasRecord(x, 0, FIRST_OF_TEN, 1);
        hasRecord(x, 49, ONE, 900);
    }

    private void anewWithWhatWasReadAgain() {
        due.sentence("the record that counts for each output: also one that was read again");
        FileBuilder x = withRecords(50);
        x.spoil(8 * 49, 23);
        x.spoil(8 * 49 + 7, (x.log(8 * 49 + 7) + 4) % 251);
        due.answers("right with another output", x.cut(400), 400);
        due.answers("of a file that no edge makes", x.file(23, 3), 5);
        addOne(x, 900);
        hasBytes("anew", x, 8 * 12);
        hasRecord(x, 9, FIRST_OF_TEN + 9, 4);
        hasRecord(x, 10, 23, 5);
        hasRecord(x, 11, ONE, 900);
    }

    private void anewWithoutWhatWasLost() {
        due.sentence("only with the record that counts: one that was lost does not");
        FileBuilder x = new FileBuilder();
        for (int e = 0; e < 2; e++) {
            x.edge(7, 0, 0);
            x.link(e, Scene.OUTPUT, e);
        }
        Scene.buildAll(x, 1);
        Scene.buildAll(x, 2);
        x.cut(8);
        for (int n = 0; n < 50; n++) {
            x.command(0, 100 + n);
            Scene.buildAll(x, 1);
        }
        hasBytes("anew", x, 16);
        hasRecord(x, 0, 0, 148);
        hasRecord(x, 1, 0, 149);
        due.answers("the other has none", x.file(1, 3), NONE);
    }

    private void anewWithoutSpoiltBytes() {
        due.sentence("spoil: it counts from the next cut on: written anew, it never counts");
        FileBuilder x = withRecords(50);
        for (int k = 0; k < 8; k++) {
            x.spoil(8 * 49 + k, 99);
        }
        addOne(x, 900);
        hasRecord(x, 9, FIRST_OF_TEN + 9, 5);
        due.answers("all is right", x.cut(400), 8 * 11);
    }

    private void cutOfAFullLog() {
        due.sentence("cut: after n bytes (if it has more)");
        int[][] rows = {{0, 0}, {7, 0}, {8, 8}, {391, 384}, {392, 392}, {393, 392}, {399, 392},
            {400, 400}, {401, 400}, {Integer.MAX_VALUE, 400}};
        for (int[] row : rows) {
            FileBuilder x = withRecords(50);
            due.answers("cut(" + row[0] + ")", x.cut(row[0]), row[1]);
            hasBytes("after cut(" + row[0] + ")", x, row[1]);
        }
    }

    private void cutAroundEachRecord() {
        due.sentence("cut: up to the first that is not whole");
        for (int n = 0; n <= 33; n++) {
            FileBuilder x = Scene.row(4, 0);
            Scene.buildAll(x, 16);
            int kept = Math.min(n / 8, 4);
            due.answers("cut(" + n + ")", x.cut(n), 8 * kept);
            hasBytes("after cut(" + n + ")", x, 8 * kept);
            for (int f = 1; f <= 4; f++) {
                due.answers("command of " + f, x.file(f, 3), f <= kept ? 99 + f : NONE);
                due.answers("time of " + f, x.file(f, 2), f <= kept ? f : NONE);
            }
        }
    }

    private void cutAgain() {
        due.sentence("cut: the records that are kept are kept again");
        FileBuilder x = withRecords(5);
        due.answers("cut(39)", x.cut(39), 32);
        due.answers("cut(39) again", x.cut(39), 32);
        due.answers("cut(400)", x.cut(400), 32);
        due.answers("cut(0)", x.cut(0), 0);
        due.answers("cut(400)", x.cut(400), 0);
    }

    private void lostBytesStayLost() {
        due.sentence("cut: all behind them is lost");
        FileBuilder x = withRecords(5);
        x.cut(17);
        due.answers("spoil of a lost byte", x.spoil(16, 1), false);
        addOne(x, 900);
        hasBytes("with one more", x, 24);
        due.answers("none comes back", x.cut(400), 24);
        hasRecord(x, 0, ONE, 200);
        hasRecord(x, 1, ONE, 201);
        hasRecord(x, 2, ONE, 900);
    }

    private void lastRecordThatIsKeptCounts() {
        due.sentence("Of an output the last record counts");
        FileBuilder x = withRecords(5);
        for (int kept = 5; kept > 0; kept--) {
            due.answers("cut", x.cut(8 * kept), 8 * kept);
            due.answers("the last of " + kept, x.file(ONE, 3), 199 + kept);
            x.command(1, 199 + kept);
            due.answers("it fits", Scene.toRun(x, 1 << ONE), 0);
            x.command(1, 198 + kept);
            due.answers("the one before does not", Scene.toRun(x, 1 << ONE), 1);
        }
        due.answers("none is kept", x.cut(7), 0);
        due.answers("none counts", x.file(ONE, 3), NONE);
    }

    private void cutForgetsReads() {
        due.sentence("cut: what was read is recorded no more");
        FileBuilder x = Scene.row(1, READER);
        x.reads(0, 5, true);
        x.write(5, 1);
        Scene.buildAll(x, 2);
        due.answers("recorded", Scene.toRun(x, 2), 0);
        due.answers("cut beyond the end", x.cut(400), 8);
        due.answers("a READER without a record", Scene.toRun(x, 2), 1);
        due.answers("it reads it still", Scene.buildAll(x, 2), 1);
        due.answers("NEWEST with it", x.file(1, 2), 2);
        x.remove(5);
        due.answers("recorded again", Scene.toRun(x, 2), 1);
    }

    private void cutForgetsTheBuild() {
        due.sentence("cut: there is no build");
        for (int well = 0; well < 2; well++) {
            FileBuilder x = Scene.row(2, 0);
            x.begin(4, 1, 1);
            x.finish(x.start(), false);
            if (well == 1) {
                Scene.buildAll(x, 4);
            }
            due.answers("state before it", x.state(), well == 1 ? 2 : 3);
            x.cut(400);
            due.answers("state", x.state(), 0);
            due.answers("about(0)", x.about(0), 0);
            due.answers("about(1)", x.about(1), 0);
            due.answers("start", x.start(), NONE);
            due.answers("edges are as they were", x.begin(4, 1, 1), well == 1 ? 0 : 2);
        }
    }

    private void spoiltRecordEndsTheLog() {
        due.sentence("cut: up to the first that is not right, all behind them is lost");
        for (int k = 0; k < 40; k++) {
            FileBuilder x = withRecords(5);
            x.spoil(k, x.log(k) + 1);
            due.answers("byte " + k + " spoilt", x.cut(40), k / 8 * 8);
            hasBytes("byte " + k + " spoilt", x, k / 8 * 8);
            due.answers("what counts", x.file(ONE, 3), k < 8 ? NONE : 199 + k / 8);
        }
    }

    private void spoiltBehindTheCut() {
        due.sentence("cut: a record that is cut off need not be right");
        FileBuilder x = withRecords(5);
        x.spoil(24, 99);
        due.answers("cut before it", x.cut(24), 24);
        addOne(x, 900);
        due.answers("one in its place is right", x.cut(400), 32);
    }

    private void spoiltAndMended() {
        due.sentence("spoil: it counts from the next cut on");
        FileBuilder x = withRecords(5);
        int before = x.log(18);
        x.spoil(18, 99);
        due.answers("the byte", x.log(18), 99);
        due.answers("what counts", x.file(ONE, 3), 204);
        due.answers("and fits", Scene.toRun(x, 1 << ONE), 0);
        x.spoil(18, before);
        due.answers("mended before a cut", x.cut(40), 40);
        x.spoil(34, 199);
        x.spoil(39, 202);
        due.answers("spoilt and yet right", x.file(ONE, 3), 204);
        due.answers("cut", x.cut(40), 40);
        due.answers("it counts now", x.file(ONE, 3), 199);
        due.answers("and does not fit", Scene.toRun(x, 1 << ONE), 1);
    }

    private void spoiltWithTheSame() {
        due.sentence("spoil: byte k of the log becomes b, be it the same");
        FileBuilder x = withRecords(2);
        for (int k = 0; k < 16; k++) {
            due.answers("spoil(" + k + ")", x.spoil(k, x.log(k)), true);
        }
        due.answers("nothing is lost", x.cut(16), 16);
    }

    private void spoilHasEightBits() {
        due.sentence("spoil: b (its lowest 8 bits)");
        int[][] rows = {{0, 0}, {255, 255}, {256, 0}, {257, 1}, {-1, 255}, {-256, 0}, {-255, 1},
            {Integer.MIN_VALUE, 0}, {Integer.MAX_VALUE, 255}};
        for (int[] row : rows) {
            FileBuilder x = withRecords(1);
            due.answers("spoil(3, " + row[0] + ")", x.spoil(3, row[0]), true);
            due.answers("byte 3", x.log(3), row[1]);
            due.answers("right if it is 0 as before", x.cut(8), row[1] == 0 ? 8 : 0);
        }
    }

    private void spoilAtTheEnds() {
        due.sentence("spoil: false when there is no such byte");
        FileBuilder x = withRecords(50);
        due.answers("spoil(-1)", x.spoil(-1, 9), false);
        due.answers("spoil(0)", x.spoil(0, 9), true);
        due.answers("spoil(399)", x.spoil(399, 9), true);
        due.answers("spoil(400)", x.spoil(400, 9), false);
        due.answers("byte 0", x.log(0), 9);
        due.answers("byte 399", x.log(399), 9);
        due.answers("byte 400", x.log(400), NONE);
    }

    private void spoilInABuild() {
        due.sentence("spoil: it counts from the next cut on, also when a build is under way");
        FileBuilder x = Scene.row(3, RESTAT);
        Scene.buildAll(x, 8);
        x.write(0, 1000);
        x.begin(8, 1, 1);
        x.start();
        due.answers("spoil", x.spoil(8, 99), true);
        due.answers("the records count as before", x.finish(0, true), 2);
        due.answers("cut", x.cut(400), 8);
        due.answers("what was behind is lost", x.file(1, 2), 1);
    }

    private void outputThatIsNoFile() {
        due.sentence("A record is RIGHT if its check byte is, and its output is a file");
        int[][] rows = {{0, 8}, {23, 8}, {24, 0}, {25, 0}, {127, 0}, {128, 0}, {255, 0}};
        for (int[] row : rows) {
            FileBuilder x = new FileBuilder();
            x.edge(5, 0, 0);
            x.link(0, Scene.OUTPUT, ONE);
            Scene.buildAll(x, 1 << ONE);
            x.spoil(0, row[0]);
            x.spoil(7, (row[0] + 5) % 251);
            due.answers("output " + row[0], x.cut(8), row[1]);
            due.answers("the output before", x.file(ONE, 3), NONE);
            due.answers("the output now", row[0] < 24 ? x.file(row[0], 3) : 5, 5);
        }
    }

    private void checkBytesThatAreNone() {
        due.sentence("modulo 251: a check byte of 251 to 255 is never right");
        for (int sum = 0; sum < 5; sum++) {
            FileBuilder x = new FileBuilder();
            x.edge(sum, 0, 0);
            x.link(0, Scene.OUTPUT, 0);
            Scene.buildAll(x, 1);
            due.answers("the check", x.log(7), sum);
            x.spoil(7, 251 + sum);
            due.answers("251 more", x.cut(8), 0);
        }
    }

    private void timeOfFourBytes() {
        due.sentence("the NEWEST time (four bytes)");
        int[][] rows = {{0, 0, 0, 0}, {0, 0, 1, 0}, {0, 1, 0, 0}, {1, 0, 0, 0}, {1, 2, 3, 4},
            {127, 255, 255, 255}};
        for (int[] row : rows) {
            FileBuilder x = new FileBuilder();
            x.edge(0, 0, 0);
            x.link(0, Scene.OUTPUT, 0);
            Scene.buildAll(x, 1);
            int sum = 0;
            for (int k = 0; k < 4; k++) {
                x.spoil(3 + k, row[k]);
                sum += row[k];
            }
            x.spoil(7, sum % 251);
            due.answers("cut", x.cut(8), 8);
            due.answers("the time", x.file(0, 2),
                    row[0] << 24 | row[1] << 16 | row[2] << 8 | row[3]);
            due.answers("the command", x.file(0, 3), 0);
        }
    }

    /** The document has no other numbers than ints; four bytes are one, below 0 from 2^31 on. */
    private void timeBelowZero() {
        due.sentence("the NEWEST time (four bytes), as an int");
        for (int high = 127; high <= 128; high++) {
            FileBuilder x = Scene.row(1, RESTAT);
            Scene.buildAll(x, 2);
            x.write(0, 1000);
            x.spoil(3, high);
            x.spoil(7, (x.log(7) + high) % 251);
            due.answers("cut", x.cut(8), 8);
            due.answers("the time", x.file(1, 2), (high << 24) + 1);
            due.answers("to run", Scene.toRun(x, 2), high - 127);
        }
    }
}
