/** Promises 38 and 39: the table laid onto the tape and read back. */
public final class TableTest {
    private static final int UNKNOWN = PacketWall.UNKNOWN;

    public static void main(String[] args) {
        nothing();
        oneRow();
        sixRow();
        changedFlows();
        readBack();
        livingOn();
        faults();
        likeRows();
        rowLimit();
        Wall.finish();
    }

    private static void nothing() {
        Wall w = Wall.fresh().tape(1, 2, 3);
        Wall.due("export of none", w.x.export(), 0);
        Wall.due("in place of what is there", w.x.told(7), 0);
        Wall.due("restore of none", w.x.restore(), 0);
    }

    private static Wall open() {
        Wall w = Wall.fresh();
        w.packet(0, Wall.streamPacket(0, 100, Wall.SYN, 4000, 0)).x.track(0);
        w.packet(0, Wall.streamPacket(1, -2, Wall.SYN | Wall.ACK, 5000, 0)).x.track(0);
        w.packet(0, Wall.streamPacket(0, 101, Wall.ACK, 4001, 5)).x.track(0);
        w.x.tick(30);
        return w;
    }

    private static int[] row(int next, int flags, int[] rest) {
        int[] row = Wall.join(Wall.b(next, flags), rest);
        return Wall.join(row, Wall.two(Wall.sumOf(row)));
    }

    private static int[] openRow() {
        return row(6, 3 + 32 + 64 + 128, Wall.join(Wall.two(1000), Wall.two(80), Wall.two(4001), Wall.two(5000), Wall.number(10, 8), Wall.number(11, 8),
                Wall.number(106, 4), Wall.number(-1, 4), Wall.number(170, 4), Wall.number(3, 4), Wall.number(44 + 44 + 49, 4)));
    }

    private static void sameTape(String what, Wall w, int[] want) {
        Wall.due(what + ": length", w.x.told(7), want.length);
        for (int i = 0; i < want.length; i++) {
            Wall.due(what + ": byte " + i, w.x.tape(i), want[i]);
        }
    }

    private static void oneRow() {
        Wall w = open();
        Wall.due("export", w.x.export(), 48);
        sameTape("a stream", w, openRow());
        w.packet(0, Wall.datagramPacket(10, 1, 11, 2)).x.track(0);
        w.x.close(0);
        w.packet(0, Wall.link(4, Wall.four(1, 10, 11, Wall.control(8, 5 << 16, Wall.b())))).x.track(0);
        w.packet(0, Wall.link(4, Wall.four(1, 11, 10, Wall.control(0, 5 << 16, Wall.b())))).x.track(0);
        Wall.due("two by numbers", w.x.export(), 96);
        int[] control = row(1, 128, Wall.join(Wall.two(5), Wall.two(5), Wall.two(0), Wall.two(0), Wall.number(10, 8), Wall.number(11, 8),
                Wall.number(0, 8), Wall.number(5, 4), Wall.number(2, 4), Wall.number(64, 4)));
        int[] datagram = row(17, 0, Wall.join(Wall.two(1), Wall.two(2), Wall.two(0), Wall.two(0), Wall.number(10, 8), Wall.number(11, 8),
                Wall.number(0, 8), Wall.number(15, 4), Wall.number(1, 4), Wall.number(33, 4)));
        sameTape("two", w, Wall.join(control, datagram));
    }

    private static void sixRow() {
        Wall w = Wall.fresh();
        w.packet(0, Wall.streamPacket(0, 100, Wall.SYN, 4000, 0)).x.track(0);
        w.x.export();
        Wall.due("one side's LAST", w.x.tape(1), 1 + 32);
        w.x.close(0);
        w.packet(0, Wall.link(6, Wall.six(17, -1, 1L << 40, Wall.datagram(1, 2, Wall.b())))).x.track(0);
        w.x.export();
        int[] row = row(17, 16, Wall.join(Wall.two(1), Wall.two(2), Wall.two(0), Wall.two(0), Wall.number(-1, 8), Wall.number(1L << 40, 8),
                Wall.number(0, 8), Wall.number(15, 4), Wall.number(1, 4), Wall.number(36, 4)));
        sameTape("six", w, row);
        Wall.due("six read back", w.x.restore(), 1);
        Wall.due("its address", w.x.flowed(0, 0), -1);
        Wall.due("it is six", w.x.flow(0, 10), 1);
    }

    private static void changedFlows() {
        Wall w = open();
        w.packet(0, Wall.datagramPacket(10, 1, 11, 2)).x.track(0);
        w.x.pool(0, 200, 5000, 1);
        w.x.change(0, 0);
        Wall.due("changed ones are left out", w.x.export(), 48);
        Wall.due("the other one", w.x.tape(0), 17);
        Wall.due("read back", w.x.restore(), 1);
        Wall.due("all there are", w.x.told(3), 1);
        Wall.due("no flow is changed by the pool now", w.x.pool(0, 200, 5000, 1), 1);
    }

    private static void readBack() {
        Wall w = open();
        w.x.export();
        w.x.close(0);
        w.packet(1);
        Wall v = Wall.fresh();
        v.x.tick(7);
        v.packet(0, Wall.datagramPacket(10, 1, 11, 2)).x.track(0);
        v.packet(0, Wall.datagramPacket(10, 1, 11, 3)).x.track(0);
        v.tape(openRow());
        Wall.due("restore", v.x.restore(), 1);
        Wall.due("the tape is empty", v.x.told(7), 0);
        Wall.due("others are gone", v.x.flow(1, 0), UNKNOWN);
        int[] want = {6, 3, 1000, 80, 170, 106, -1, 4001, 5000, -1, 0};
        for (int what = 0; what <= 10; what++) {
            Wall.due("flow " + what, v.x.flow(0, what), want[what]);
        }
        long[] wantLong = {10, 11, 3, 0, 137, 0};
        for (int what = 0; what <= 5; what++) {
            Wall.due("flowed " + what, v.x.flowed(0, what), wantLong[what]);
        }
        v.x.export();
        sameTape("laid again", v, openRow());
    }

    private static void livingOn() {
        Wall w = Wall.fresh().tape(openRow());
        w.x.restore();
        w.x.tick(169);
        Wall.due("one tick left", w.x.flow(0, 4), 1);
        Wall.due("out by side 1's window", w.packet(0, Wall.streamPacket(0, 5107, Wall.ACK, 1, 0)).x.track(0), PacketWall.OUT);
        Wall.due("in it", w.packet(0, Wall.streamPacket(0, 5106, Wall.ACK, 1, 0)).x.track(0), 0);
        Wall.due("packets go on", w.x.flowed(0, 2), 4);
        int[] quiet = openRow();
        quiet[1] = 3;
        w.tape(row(6, 3, java.util.Arrays.copyOfRange(quiet, 2, 46)));
        Wall.due("without LASTS", w.x.restore(), 1);
        Wall.due("LAST 0", w.x.flow(0, 5), 0);
        Wall.due("LAST 1", w.x.flow(0, 6), 0);
        Wall.due("nothing is out", w.packet(0, Wall.streamPacket(0, 99999999, Wall.ACK, 1, 0)).x.track(0), 0);
        Wall.due("nor by a side that sent nothing", w.packet(0, Wall.streamPacket(0, 99999999, Wall.ACK, 1, 300)).x.track(0), 0);
    }

    private static int[] changed(int[] row, int at, int... bytes) {
        int[] made = java.util.Arrays.copyOf(row, 46);
        System.arraycopy(bytes, 0, made, at, bytes.length);
        return Wall.join(made, Wall.two(Wall.sumOf(made)));
    }

    private static void fault(String what, int[] table, int row) {
        Wall w = open();
        w.tape(table);
        Wall.due(what, w.x.restore(), -10 - row);
        Wall.due(what + ": flows stay", w.x.flow(0, 1), 3);
        Wall.due(what + ": the tape", w.x.told(7), 0);
    }

    private static void faults() {
        int[] good = openRow();
        fault("one byte", Wall.b(1), 0);
        fault("47 bytes", java.util.Arrays.copyOf(good, 47), 0);
        fault("a byte behind", Wall.join(good, Wall.b(0)), 1);
        fault("sum", Wall.with(good, 47, good[47] ^ 1), 0);
        fault("next", changed(good, 0, 2), 0);
        fault("state 0 of a stream", changed(good, 1, 0), 0);
        fault("state 11 of a stream", changed(good, 1, 11), 0);
        fault("state 2 of a datagram", changed(good, 0, 17, 2), 0);
        fault("state 1 of a control", changed(good, 0, 1, 1), 0);
        fault("an address of FOUR", changed(good, 13, 1), 0);
        fault("the other address", changed(good, 21, 1), 0);
        fault("the other address, negative", changed(good, 18, 128), 0);
        fault("lives 0", changed(good, 34, 0, 0, 0, 0), 0);
        fault("lives 201", changed(good, 34, 0, 0, 0, 201), 0);
        fault("lives very long", changed(good, 34, 128, 0, 0, 1), 0);
        Wall w = Wall.fresh().tape(Wall.join(good, changed(good, 3, 0)));
        w.x.end(95);
        Wall.due("a row whose last byte was cut off", w.x.restore(), -11);
        for (int[] row : new int[][] {changed(good, 0, 17, 1), changed(good, 0, 1, 0), changed(good, 1, 10), changed(good, 1, 1), changed(good, 0, 17, 0),
            changed(good, 34, 0, 0, 0, 200), changed(good, 34, 0, 0, 0, 1), changed(good, 14, 255, 255, 255, 255), changed(good, 1, 3 + 16, 0, 1)}) {
            Wall.due("a row that is right", w.tape(row).x.restore(), 1);
        }
        w.tape(changed(good, 38, 255, 255, 255, 255, 255, 255, 255, 254));
        w.x.restore();
        Wall.due("packets without sign", w.x.flowed(0, 2), 4294967295L);
        Wall.due("bytes without sign", w.x.flowed(0, 4), 4294967294L);
    }

    private static void likeRows() {
        int[] good = openRow();
        int[] back = changed(changed(good, 2, 0, 80, 1000 >> 8, 1000 & 255), 10, Wall.join(Wall.number(11, 8), Wall.number(10, 8)));
        int[] other = changed(good, 3, 0);
        fault("the same", Wall.join(other, good, good), 2);
        fault("the other way", Wall.join(good, other, back), 2);
        Wall w = Wall.fresh();
        Wall.due("six is unlike", w.tape(Wall.join(good, changed(good, 1, 3 + 16))).x.restore(), 2);
        Wall.due("another next is unlike", w.tape(Wall.join(good, changed(good, 0, 17, 1))).x.restore(), 2);
        Wall.due("ports alone turned are unlike", w.tape(Wall.join(good, changed(good, 2, 0, 80, 1000 >> 8, 1000 & 255))).x.restore(), 2);
    }

    private static void rowLimit() {
        int[] table = Wall.b();
        for (int r = 0; r < 24; r++) {
            table = Wall.join(table, changed(openRow(), 2, 0, r));
        }
        Wall w = Wall.fresh();
        Wall.due("24 rows", w.tape(table).x.restore(), 24);
        Wall.due("24 flows", w.x.told(3), 24);
        Wall.due("by the numbers that come", w.x.flow(23, 2), 23);
        Wall.due("export of them", w.x.export(), 24 * 48);
        fault("a 25th", Wall.join(table, changed(openRow(), 2, 0, 24)), 24);
        fault("an earlier fault", Wall.join(Wall.with(table, 60, 9), changed(openRow(), 2, 0, 24)), 1);
    }
}
