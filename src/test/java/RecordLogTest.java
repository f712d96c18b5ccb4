/** Promises 16 to 18: the log as a row of bytes, cut and spoilt. */
public final class RecordLogTest {
    private static final int NONE = FileBuilder.NONE;
    private static final int RESTAT = 2;
    private static final int READER = 8;

    private final Due due = new Due("RecordLogTest");

    public static void main(String[] args) {
        RecordLogTest test = new RecordLogTest();
        test.bytes();
        test.checkModulo251();
        test.writtenAnew();
        test.writtenAnewWithinAnEdge();
        test.cutAtEveryByte();
        test.cutForgets();
        test.cutKeepsTheRest();
        test.theLastRecordCounts();
        test.spoil();
        test.spoilCountsFromTheNextCut();
        test.spoiltBytesAreWrittenOver();
        test.everyByteIsChecked();
        test.spoiltAndYetRight();
        test.due.end();
    }

    private static FileBuilder threeRecords() {
        FileBuilder x = Scene.row(3, 0);
        Scene.buildAll(x, 8);
        return x;
    }

    private void hasBytes(String when, FileBuilder x, int bytes) {
        due.answers(when, x.log(bytes - 1) != NONE && x.log(bytes) == NONE, true);
    }

    private void bytes() {
        FileBuilder x = new FileBuilder();
        Scene.edge(x, 0x1234, 0, 0, 0, 23);
        for (int n = 0; n < 300; n++) {
            x.write(0, n);
        }
        Scene.buildAll(x, 1 << 23);
        int[] want = {23, 0x12, 0x34, 0, 0, 1, 44, (23 + 0x12 + 0x34 + 1 + 44) % 251};
        for (int k = 0; k < 8; k++) {
            due.answers("log(" + k + ")", x.log(k), want[k]);
        }
        due.answers("log(8)", x.log(8), NONE);
        due.answers("log(-1)", x.log(-1), NONE);
        due.answers("log(400)", x.log(400), NONE);
        due.answers("log(MAX)", x.log(Integer.MAX_VALUE), NONE);
        due.answers("log(MIN)", x.log(Integer.MIN_VALUE), NONE);
    }

    private void checkModulo251() {
        FileBuilder x = new FileBuilder();
        x.edge(0xFFFF, 0, 0);
        x.link(0, Scene.OUTPUT, 3);
        Scene.buildAll(x, 8);
        due.answers("a check above 251", x.log(7), (3 + 255 + 255) % 251);
        x.command(0, 248);
        Scene.buildAll(x, 8);
        due.answers("a check of 251 is 0", x.log(15), 0);
        due.answers("and it is right", x.cut(16), 16);
        x.spoil(15, 251);
        due.answers("251 itself is not", x.cut(16), 8);
    }

    private void writtenAnew() {
        FileBuilder x = new FileBuilder();
        Scene.edge(x, 1, 0, 0, 20, 9);
        Scene.edge(x, 2, 0, 0, 20, 0);
        for (int n = 0; n < 25; n++) {
            x.write(20, n);
            Scene.buildAll(x, 1 << 9 | 1);
        }
        hasBytes("fifty records", x, 400);
        due.answers("the first is of the lower edge", x.log(0), 9);
        int old = x.file(9, 2);
        x.write(20, 99);
        x.begin(1 << 9, 1, 1);
        x.start();
        x.finish(0, true);
        hasBytes("two anew and one more", x, 24);
        int[] outputs = {0, 9, 9};
        int[] times = {old, old, x.file(20, 1)};
        for (int r = 0; r < 3; r++) {
            due.answers("output of record " + r, x.log(8 * r), outputs[r]);
            due.answers("time of record " + r, x.log(8 * r + 6), times[r]);
        }
        due.answers("it is read again whole", x.cut(400), 24);
        due.answers("with the newest time", x.file(9, 2), x.file(20, 1));
    }

    private void writtenAnewWithinAnEdge() {
        FileBuilder x = new FileBuilder();
        x.edge(1, 0, 0);
        for (int f = 3; f > 0; f--) {
            x.link(0, Scene.OUTPUT, f);
        }
        for (int n = 0; n < 16; n++) {
            x.command(0, n);
            Scene.buildAll(x, 2);
        }
        hasBytes("48 records", x, 384);
        x.command(0, 77);
        Scene.buildAll(x, 2);
        hasBytes("three anew and one more", x, 32);
        int[] outputs = {1, 2, 3, 3};
        int[] commands = {77, 77, 15, 77};
        for (int r = 0; r < 4; r++) {
            due.answers("output of record " + r, x.log(8 * r), outputs[r]);
            due.answers("command of record " + r, x.log(8 * r + 2), commands[r]);
        }
    }

    private void cutAtEveryByte() {
        for (int n = 0; n <= 30; n++) {
            FileBuilder x = threeRecords();
            int kept = Math.min(n / 8, 3);
            due.answers("cut(" + n + ")", x.cut(n), 8 * kept);
            due.answers("the last byte after cut(" + n + ")", x.log(8 * kept - 1) != NONE, kept > 0);
            due.answers("none behind it", x.log(8 * kept), NONE);
            for (int f = 1; f <= 3; f++) {
                due.answers("record of " + f + " after cut(" + n + ")", x.file(f, 3),
                        f <= kept ? 99 + f : NONE);
            }
            due.answers("to run after cut(" + n + ")", x.begin(8, 1, 1), 3 - kept);
        }
        FileBuilder x = threeRecords();
        due.refuses("cut(-1)", IllegalArgumentException.class, () -> x.cut(-1));
        due.refuses("cut(MIN)", IllegalArgumentException.class, () -> x.cut(Integer.MIN_VALUE));
        due.answers("cut(MAX)", x.cut(Integer.MAX_VALUE), 24);
        due.answers("cut of an empty log", new FileBuilder().cut(5), 0);
    }

    private void cutForgets() {
        FileBuilder x = Scene.row(2, READER);
        x.reads(0, 5, true);
        x.write(5, 1);
        Scene.buildAll(x, 4);
        due.answers("nothing to run", x.begin(4, 1, 1), 0);
        due.answers("cut behind the end", x.cut(400), 16);
        due.answers("no build", x.state(), 0);
        due.answers("about", x.about(0), 0);
        due.answers("readers have no record", x.begin(4, 1, 1), 2);
        FileBuilder y = Scene.row(1, 0);
        y.begin(2, 1, 1);
        y.start();
        y.finish(0, false);
        y.cut(0);
        due.answers("a failure is forgotten", y.about(0), 0);
        due.answers("start after a cut", y.start(), NONE);
    }

    private void cutKeepsTheRest() {
        FileBuilder x = threeRecords();
        x.pool(1, 2);
        int content = x.file(3, 0);
        x.cut(0);
        due.answers("contents stay", x.file(3, 0), content);
        due.answers("times stay", x.file(3, 1), 4);
        due.answers("commands stay", x.commandOf(2), 102);
        x.write(9, 1);
        due.answers("the clock goes on", x.file(9, 1), 5);
        due.answers("all is built again", Scene.buildAll(x, 8), 3);
        due.answers("the log begins anew", x.log(0), 1);
        hasBytes("with three records", x, 24);
        FileBuilder y = Scene.fan(3, 1);
        y.pool(1, 2);
        y.cut(0);
        y.begin(7 << 12, 4, 1);
        y.start();
        due.answers("the depth of a pool stays", y.start(), 1);
        due.answers("as it was", y.start(), NONE);
    }

    private void theLastRecordCounts() {
        FileBuilder x = Scene.row(1, 0);
        Scene.buildAll(x, 2);
        x.command(0, 7);
        Scene.buildAll(x, 2);
        due.answers("the last counts", x.file(1, 3), 7);
        due.answers("cut(16)", x.cut(16), 16);
        due.answers("the last counts when read again", x.file(1, 3), 7);
        x.cut(15);
        due.answers("the one before it counts when it is lost", x.file(1, 3), 100);
    }

    private void spoil() {
        FileBuilder x = threeRecords();
        String before = Scene.sight(x);
        due.answers("spoil(-1)", x.spoil(-1, 1), false);
        due.answers("spoil(24)", x.spoil(24, 1), false);
        due.answers("spoil(MAX)", x.spoil(Integer.MAX_VALUE, 1), false);
        due.answers("spoil(MIN)", x.spoil(Integer.MIN_VALUE, 1), false);
        due.answers("nothing changed", before.equals(Scene.sight(x)), true);
        due.answers("spoil(23)", x.spoil(23, -1), true);
        due.answers("its lowest 8 bits", x.log(23), 255);
        due.answers("spoil(0)", x.spoil(0, 256 + 7), true);
        due.answers("its lowest 8 bits", x.log(0), 7);
        due.answers("spoil of an empty log", new FileBuilder().spoil(0, 0), false);
        FileBuilder y = threeRecords();
        y.write(0, 1);
        y.begin(2, 1, 1);
        due.answers("spoil in a build", y.spoil(0, 9), true);
        due.answers("log in a build", y.log(0), 9);
    }

    private void spoilCountsFromTheNextCut() {
        FileBuilder x = threeRecords();
        x.spoil(10, 7);
        due.answers("the byte", x.log(10), 7);
        due.answers("what counts", x.file(2, 3), 101);
        due.answers("nothing is to run", x.begin(8, 1, 1), 0);
        due.answers("only the first is right", x.cut(400), 8);
        due.answers("what counts now", x.file(2, 3), NONE);
        due.answers("what stood behind it is lost too", x.file(3, 3), NONE);
    }

    private void spoiltBytesAreWrittenOver() {
        FileBuilder x = Scene.row(1, 0);
        for (int n = 0; n < 50; n++) {
            x.command(0, n);
            Scene.buildAll(x, 2);
        }
        x.spoil(0, 200);
        x.spoil(399, 255);
        x.command(0, 999);
        Scene.buildAll(x, 2);
        due.answers("the record that counts is whole", x.log(2), 49);
        due.answers("both are right", x.cut(400), 16);
        due.answers("the last counts", x.file(1, 3), 999);
    }

    private void everyByteIsChecked() {
        for (int k = 0; k < 24; k++) {
            FileBuilder x = threeRecords();
            x.spoil(k, x.log(k) + 1);
            due.answers("byte " + k + " spoilt", x.cut(24), k / 8 * 8);
        }
    }

    private void spoiltAndYetRight() {
        FileBuilder x = threeRecords();
        x.spoil(8, 23);
        x.spoil(15, (x.log(15) + 21) % 251);
        due.answers("another output that is a file", x.cut(24), 24);
        due.answers("its record", x.file(23, 3), 101);
        due.answers("the former has none", x.file(2, 3), NONE);
        FileBuilder y = threeRecords();
        y.spoil(8, 24);
        y.spoil(15, (y.log(15) + 22) % 251);
        due.answers("an output that is no file", y.cut(24), 8);
        FileBuilder z = threeRecords();
        z.spoil(9, 251);
        due.answers("251 more is not seen by the check", z.cut(24), 24);
        due.answers("another command", z.file(2, 3), 251 * 256 + 101);
        z.spoil(12, 251);
        z.cut(24);
        due.answers("another time", z.file(2, 2), 251 << 16 | 2);
        timeOfASpoiltRecord();
    }

    private void timeOfASpoiltRecord() {
        FileBuilder x = Scene.row(1, RESTAT);
        Scene.buildAll(x, 2);
        x.write(0, 2);
        due.answers("newer than the record", x.begin(2, 1, 1), 1);
        x.start();
        x.finish(0, false);
        x.spoil(4, 251);
        due.answers("the record is right", x.cut(8), 8);
        due.answers("it is not below NEWEST now", x.begin(2, 1, 1), 0);
        FileBuilder y = new FileBuilder();
        Scene.edge(y, 1, 0, 0, 0, 1);
        Scene.edge(y, 2, 0, 0, 0, 2);
        y.write(0, 1);
        Scene.buildAll(y, 4);
        Scene.buildAll(y, 2);
        y.spoil(11, 251);
        y.spoil(12, 251);
        y.cut(16);
        int time = 251 << 24 | 251 << 16 | 1;
        due.answers("a time of four bytes", y.file(1, 2), time);
        for (int n = 0; n < 49; n++) {
            y.command(1, n);
            Scene.buildAll(y, 4);
        }
        hasBytes("the log was written anew", y, 24);
        int[] want = {1, 0, 1, 251, 251, 0, 1, (1 + 1 + 251 + 251 + 1) % 251};
        for (int k = 0; k < 8; k++) {
            due.answers("byte " + k + " of the spoilt record anew", y.log(k), want[k]);
        }
    }
}
