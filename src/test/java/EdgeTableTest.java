import java.util.Arrays;
import java.util.function.Consumer;

/** Each boundary of THE TABLE: promises 38 and 39, with part 5 of the document. */
public final class EdgeTableTest {
    private static final int UNKNOWN = PacketWall.UNKNOWN;
    private static final int NEXT = 0, STATE = 1, PORTS = 2, WINDOWS = 6, ADDRESSES = 10, LASTS = 26, LIVES = 34, PACKETS = 38, BYTES = 42, SUM = 46;

    public static void main(String[] args) {
        anEmptyTable();
        anEmptyTape();
        inPlaceOfWhatIsThere();
        the24Rows();
        a25thRow();
        rowsThatAreNotWhole();
        sumsThatAreNotRight();
        nexts();
        statesOfEachNext();
        bitsBesideTheState();
        addressesOfFour();
        livesOf1To200();
        endsThatARowAheadHas();
        endsThatNoneHas();
        theFirstRowThatIsNotSo();
        lowestBits();
        whatIsReadBack();
        whatGoes();
        eachRowOfTheTable();
        tablesOneBehindTheOther();
        Wall.finish();
    }

    /** The fields of a row, then its sum. */
    private static int[] row(int next, int state, int port, int life) {
        return summed(Wall.join(Wall.b(next, state), Wall.two(port), Wall.two(80), Wall.two(4000), Wall.two(5000), Wall.number(10, 8), Wall.number(11, 8),
                Wall.number(106, 4), Wall.number(901, 4), Wall.number(life, 4), Wall.number(3, 4), Wall.number(140, 4)));
    }

    private static int[] summed(int[] fields) {
        return Wall.join(fields, Wall.two(Wall.sumOf(fields)));
    }

    private static int[] with(int[] row, int at, int... bytes) {
        int[] made = Arrays.copyOf(row, SUM);
        System.arraycopy(bytes, 0, made, at, bytes.length);
        return summed(made);
    }

    private static int[] stream() {
        return row(6, 3 + 32 + 64 + 128, 1000, 100);
    }

    /** Two flows that are there ahead of a table, so that one which is refused shows that they stay. */
    private static final Consumer<Wall> BEFORE = w -> {
        w.packet(0, Wall.datagramPacket(1, 1, 2, 2)).x.track(0);
        w.packet(0, Wall.datagramPacket(1, 3, 2, 2)).x.track(0);
        w.x.tick(2);
    };

    private static void wrong(String what, int[] table, int row) {
        Wall asked = Wall.fresh();
        Wall left = Wall.fresh();
        BEFORE.accept(asked);
        BEFORE.accept(left);
        Wall.due(what, asked.tape(table).x.restore(), -10 - row);
        Wall.sameView(what, asked, left);
    }

    private static Wall right(String what, int[] table, int rows) {
        Wall w = Wall.fresh();
        BEFORE.accept(w);
        Wall.due(what, w.tape(table).x.restore(), rows);
        Wall.due(what + ": flows", w.x.told(3), rows);
        Wall.due(what + ": the tape", w.x.told(7), 0);
        return w;
    }

    private static void anEmptyTable() {
        Wall w = Wall.fresh();
        Wall.due("no flow", w.x.export(), 0);
        Wall.due("no byte", w.x.tape(0), PacketWall.NONE);
        w.packet(0, Wall.datagramPacket(1, 1, 2, 2)).x.track(0);
        w.x.pool(0, 5, 5, 1);
        w.x.change(0, 0);
        Wall.due("a CHANGED flow alone", w.x.export(), 0);
    }

    private static void anEmptyTape() {
        right("an empty tape: no flow is left", Wall.b(), 0);
        Wall w = Wall.fresh();
        Wall.due("an empty tape, no flow", w.x.restore(), 0);
        w.packet(0, Wall.datagramPacket(1, 1, 2, 2)).x.track(0);
        w.x.pool(0, 5, 5, 1);
        w.x.change(0, 0);
        Wall.due("CHANGED ones go, too", w.x.restore(), 0);
        Wall.due("none", w.x.told(3), 0);
        Wall.due("its port is free", w.x.pool(0, 5, 5, 1), 1);
    }

    private static void inPlaceOfWhatIsThere() {
        Wall w = Wall.fresh();
        BEFORE.accept(w);
        w.tape(Wall.run(1600));
        Wall.due("two rows", w.x.export(), 96);
        Wall.due("in place of 1600 bytes", w.x.told(7), 96);
        Wall.due("behind them", w.x.tape(96), PacketWall.NONE);
        Wall.due("again", w.x.export(), 96);
        w.x.close(0);
        w.x.close(1);
        Wall.due("in place of two rows", w.x.export(), 0);
        Wall.due("nothing", w.x.told(7), 0);
    }

    private static int[] rows(int n) {
        int[] table = Wall.b();
        for (int r = 0; r < n; r++) {
            table = Wall.join(table, row(6, 3, 100 + r, 100));
        }
        return table;
    }

    private static void the24Rows() {
        Wall w = right("24 rows", rows(24), 24);
        for (int f = 0; f < 24; f++) {
            Wall.due("the number that comes, " + f, w.x.flow(f, 2), 100 + f);
        }
        Wall.due("laid again", w.x.export(), 1152);
        w = right("1 row", rows(1), 1);
        Wall.due("no second", w.x.flow(1, 0), UNKNOWN);
    }

    private static void a25thRow() {
        wrong("a 25th", rows(25), 24);
        wrong("33 rows", rows(33), 24);
        wrong("a 25th of one byte", Wall.join(rows(24), Wall.b(0)), 24);
        wrong("a 25th of 47 bytes", Arrays.copyOf(rows(25), 25 * 48 - 1), 24);
        wrong("a 25th and a fault in the 24th", Wall.with(rows(25), 23 * 48, 9), 23);
    }

    private static void rowsThatAreNotWhole() {
        for (int n = 1; n < 48; n++) {
            wrong("the first " + n + " bytes of a row", Arrays.copyOf(stream(), n), 0);
            wrong("and a row ahead, " + n, Arrays.copyOf(Wall.join(stream(), row(6, 3, 77, 9)), 48 + n), 1);
        }
        right("a whole row", stream(), 1);
    }

    private static void sumsThatAreNotRight() {
        int[] row = stream();
        for (int at = 0; at < 48; at++) {
            wrong("byte " + at + " turned", Wall.with(row, at, row[at] ^ 1), 0);
        }
        wrong("sum 0", Wall.with(Wall.with(row, SUM, 0), SUM + 1, 0), 0);
        int[] fields = Arrays.copyOf(row, SUM);
        int left = Wall.sumOf(Wall.with(Wall.with(fields, WINDOWS, 0), WINDOWS + 1, 0));
        int[] quiet = with(row, WINDOWS, left >> 8, left & 255);
        Wall.due("a sum that is 0", quiet[SUM] + quiet[SUM + 1], 0);
        right("a sum that is 0", quiet, 1);
        wrong("65535 is not 0 here", Wall.with(Wall.with(quiet, SUM, 255), SUM + 1, 255), 0);
    }

    private static void nexts() {
        for (int next = 0; next < 256; next++) {
            int state = next == 6 || next == 17 ? 1 : 0;
            if (next == 1 || next == 6 || next == 17) {
                right("next " + next, row(next, state, 1000, 5), 1);
            } else {
                wrong("next " + next, row(next, 0, 1000, 5), 0);
                wrong("next " + next + ", state 1", row(next, 1, 1000, 5), 0);
            }
        }
    }

    private static void statesOfEachNext() {
        for (int state = 0; state < 16; state++) {
            for (int next : new int[] {1, 6, 17}) {
                boolean has = next == 6 ? state >= 1 && state <= 10 : next == 17 ? state <= 1 : state == 0;
                String what = "state " + state + " of next " + next;
                if (has) {
                    Wall w = right(what, row(next, state, 1000, 5), 1);
                    Wall.due(what + ": it is", w.x.flow(0, 1), state);
                } else {
                    wrong(what, row(next, state, 1000, 5), 0);
                    wrong(what + ", with all bits", row(next, state + 240, 1000, 5), 0);
                }
            }
        }
    }

    private static void bitsBesideTheState() {
        for (int bits = 0; bits < 256; bits += 16) {
            Wall w = right("bits " + bits, row(6, 10 + bits, 1000, 5), 1);
            Wall.due("SIX, bits " + bits, w.x.flow(0, 10), (bits & 16) != 0 ? 1 : 0);
            Wall.due("LAST 0, bits " + bits, w.x.flow(0, 5), (bits & 32) != 0 ? 106 : 0);
            Wall.due("LAST 1, bits " + bits, w.x.flow(0, 6), (bits & 64) != 0 ? 901 : 0);
            Wall.due("laid again, bits " + bits, w.x.export(), 48);
            Wall.due("the same bits", w.x.tape(1), 10 + bits);
        }
    }

    private static void addressesOfFour() {
        for (int side = 0; side < 2; side++) {
            int at = ADDRESSES + 8 * side;
            Wall w = right("the greatest of FOUR", with(stream(), at, Wall.number(0xffffffffL, 8)), 1);
            Wall.due("it is", w.x.flowed(0, side), 0xffffffffL);
            right("0", with(stream(), at, Wall.number(0, 8)), 1);
            for (long address : new long[] {0x100000000L, 1L << 40, Long.MAX_VALUE, Long.MIN_VALUE, -1}) {
                wrong("an address of FOUR: " + address, with(stream(), at, Wall.number(address, 8)), 0);
                w = right("an address of SIX: " + address, with(with(stream(), at, Wall.number(address, 8)), STATE, 3 + 16), 1);
                Wall.due("it is", w.x.flowed(0, side), address);
            }
        }
    }

    private static void livesOf1To200() {
        for (long life : new long[] {0, 201, 256, 65536, 0x7fffffffL, 0x80000000L, 0x80000064L, 0xffffffffL}) {
            wrong("lives " + life, with(stream(), LIVES, Wall.number(life, 4)), 0);
        }
        for (int life : new int[] {1, 2, 199, 200}) {
            Wall w = right("lives " + life, with(stream(), LIVES, Wall.number(life, 4)), 1);
            Wall.due("the ticks that it lives still", w.x.flow(0, 4), life);
            if (life > 1) {
                w.x.tick(life - 1);
                Wall.due("one tick before its end", w.x.told(3), 1);
            }
            w.x.tick(1);
            Wall.due("at its end", w.x.told(3), 0);
        }
        right("a control may live 200, too", row(1, 0, 1000, 200), 1);
        right("a stream of state 10, too", row(6, 10, 1000, 200), 1);
    }

    private static int[] turned(int[] row) {
        int[] made = row.clone();
        System.arraycopy(row, PORTS, made, PORTS + 2, 2);
        System.arraycopy(row, PORTS + 2, made, PORTS, 2);
        System.arraycopy(row, ADDRESSES, made, ADDRESSES + 8, 8);
        System.arraycopy(row, ADDRESSES + 8, made, ADDRESSES, 8);
        return summed(Arrays.copyOf(made, SUM));
    }

    private static void endsThatARowAheadHas() {
        int[] other = row(6, 3, 77, 9);
        for (int[] row : new int[][] {stream(), row(17, 1, 1000, 5), row(1, 0, 1000, 5), row(6, 3 + 16, 1000, 9), row(17, 16, 1000, 9)}) {
            wrong("the same", Wall.join(row, row), 1);
            wrong("the same, one between", Wall.join(row, other, row), 2);
            wrong("the other way", Wall.join(row, turned(row)), 1);
            wrong("the other way, one between", Wall.join(row, other, turned(row)), 2);
            wrong("the same, another life and count", Wall.join(row, with(with(row, LIVES, 0, 0, 0, 7), PACKETS, 9, 9, 9, 9)), 1);
        }
        wrong("the same, another state", Wall.join(stream(), row(6, 10, 1000, 3)), 1);
        wrong("the 24th as the first", Wall.join(rows(23), row(6, 3, 100, 100)), 23);
    }

    private static void endsThatNoneHas() {
        int[] row = stream();
        int[] portsTurned = with(row, PORTS, 0, 80, 1000 >> 8, 1000 & 255);
        int[] addressesTurned = with(row, ADDRESSES, Wall.join(Wall.number(11, 8), Wall.number(10, 8)));
        int[][] others = {with(row, PORTS + 1, 1), with(row, PORTS + 3, 1), with(row, ADDRESSES + 7, 9), with(row, ADDRESSES + 15, 9), portsTurned, addressesTurned,
            with(row, STATE, 3 + 16), with(row, NEXT, 17, 1), with(row, NEXT, 1, 0)};
        for (int i = 0; i < others.length; i++) {
            right("another one, " + i, Wall.join(row, others[i]), 2);
            right("another one ahead, " + i, Wall.join(others[i], row), 2);
        }
    }

    private static void theFirstRowThatIsNotSo() {
        int[] good = stream();
        int[] bad = row(2, 3, 1000, 9);
        wrong("the first", Wall.join(bad, bad), 0);
        wrong("the second", Wall.join(good, bad, bad), 1);
        wrong("the second, of the same ends as the first", Wall.join(good, good, bad), 1);
        wrong("the third", Wall.join(good, row(6, 3, 77, 9), bad, Wall.b(1)), 2);
        wrong("a row that is not whole behind a wrong one", Wall.join(bad, Wall.b(1)), 0);
        wrong("the 24th", Wall.join(rows(23), bad), 23);
    }

    private static void lowestBits() {
        Wall w = right("the greatest counts", with(stream(), PACKETS, Wall.join(Wall.number(-1, 4), Wall.number(-1, 4))), 1);
        Wall.due("packets of side 0", w.x.flowed(0, 2), 0xffffffffL);
        Wall.due("packets of side 1", w.x.flowed(0, 3), 0);
        Wall.due("bytes of side 0", w.x.flowed(0, 4), 0xffffffffL);
        Wall.due("bytes of side 1", w.x.flowed(0, 5), 0);
        w.packet(0, Wall.streamPacket(1, 901, Wall.ACK, 5000, 0)).x.track(0);
        Wall.due("side 1's packet", w.x.flowed(0, 3), 1);
        w.x.export();
        Wall.due("packets of both, the lowest bits", Wall.sumOf(Arrays.copyOfRange(w.wholeTape(), PACKETS, PACKETS + 4)), 65535);
        int[] bytes = Arrays.copyOfRange(w.wholeTape(), BYTES, BYTES + 4);
        Wall.due("bytes of both, the lowest bits", bytes[3], 43);
        Wall.due("none higher", bytes[0] + bytes[1] + bytes[2], 0);
    }

    private static void whatIsReadBack() {
        int[] fields = Wall.join(Wall.b(6, 9 + 32 + 64 + 128), Wall.two(65535), Wall.two(0), Wall.two(65535), Wall.two(65534), Wall.number(0xffffffffL, 8), Wall.number(0, 8),
                Wall.number(0x80000000L, 4), Wall.number(-1, 4), Wall.number(200, 4), Wall.number(0x80000001L, 4), Wall.number(0xfffffffeL, 4));
        Wall w = right("the edges of each", summed(fields), 1);
        int[] want = {6, 9, 65535, 0, 200, Integer.MIN_VALUE, -1, 65535, 65534, PacketWall.NONE, 0};
        for (int what = 0; what <= 10; what++) {
            Wall.due("flow " + what, w.x.flow(0, what), want[what]);
        }
        long[] wantLong = {0xffffffffL, 0, 0x80000001L, 0, 0xfffffffeL, 0};
        for (int what = 0; what <= 5; what++) {
            Wall.due("flowed " + what, w.x.flowed(0, what), wantLong[what]);
        }
        w.x.export();
        int[] again = w.wholeTape();
        for (int i = 0; i < 48; i++) {
            Wall.due("laid again, byte " + i, again[i], summed(fields)[i]);
        }
    }

    private static void whatGoes() {
        Wall w = right("one flow in place of two", stream(), 1);
        Wall.due("the second is gone", w.x.flow(1, 0), UNKNOWN);
        Wall.due("its number is the least free one", w.packet(0, Wall.datagramPacket(1, 1, 2, 2)).x.track(0), 1);
        Wall.due("the flow is found by its ends", w.packet(0, Wall.streamPacket(1, 901, Wall.ACK, 9, 0)).x.track(0), 0);
        Wall.due("packets are side 0's, this one is side 1's", w.x.flowed(0, 3), 1);
        Wall.due("side 0's", w.x.flowed(0, 2), 3);
        Wall.due("TIME stays", w.x.told(0), 2);
    }

    private static void tablesOneBehindTheOther() {
        Wall w = right("three rows", rows(3), 3);
        w.x.pool(0, 5, 5, 3);
        for (int f = 0; f < 3; f++) {
            Wall.due("changed", w.x.change(f, 0), 5 + f);
        }
        Wall.due("two rows", w.tape(rows(2)).x.restore(), 2);
        Wall.due("one row", w.tape(rows(1)).x.restore(), 1);
        Wall.due("one flow", w.x.told(3), 1);
        Wall.due("no second", w.x.flow(1, 0), UNKNOWN);
        Wall.due("it is not changed", w.x.flow(0, 9), PacketWall.NONE);
        Wall.due("so it is laid", w.x.export(), 48);
        Wall.due("and no pool is used", w.x.pool(0, 6, 6, 3), 3);
        Wall.due("a fault in the second row", w.tape(Wall.join(row(17, 1, 7, 7), Wall.b(1))).x.restore(), -11);
        Wall.due("the flow stays", w.x.flow(0, 2), 100);
        Wall.due("its next stays", w.x.flow(0, 0), 6);
        Wall.due("one flow stays", w.x.told(3), 1);
        Wall.due("24 rows", w.tape(rows(24)).x.restore(), 24);
        Wall.due("a fault in the first row", w.tape(1).x.restore(), -10);
        Wall.due("24 flows stay", w.x.told(3), 24);
        Wall.due("none", w.x.restore(), 0);
        Wall.due("no flow", w.x.told(3), 0);
    }

    /** Flows of each kind and next, laid and read back, are laid again as they were. */
    private static void eachRowOfTheTable() {
        Wall w = Wall.fresh();
        int[][] packets = {Wall.streamPacket(0, 100, Wall.SYN, 65535, 0), Wall.datagramPacket(0xffffffffL, 65535, 0, 0), Wall.link(4, Wall.four(1, 10, 11, Wall.control(8, 0xffff0000L, Wall.b()))),
            Wall.link(6, Wall.six(6, -1, Long.MIN_VALUE, Wall.stream(1, 2, -1, Wall.SYN, 9, Wall.run(4)))), Wall.link(6, Wall.six(17, 10, 11, Wall.datagram(1, 2, Wall.b()))),
            Wall.link(6, Wall.six(1, 10, 11, Wall.control(8, 0, Wall.b())))};
        for (int f = 0; f < packets.length; f++) {
            Wall.due("flow " + f, w.packet(0, packets[f]).x.track(0), f);
        }
        w.packet(0, Wall.streamPacket(1, -1, Wall.SYN | Wall.ACK, 1, 0)).x.track(0);
        w.x.tick(2);
        w.x.close(4);
        Wall.due("five rows", w.x.export(), 240);
        int[] table = new int[240];
        for (int i = 0; i < 240; i++) {
            table[i] = w.x.tape(i);
        }
        int[] nexts = {6, 17, 1, 6, 1};
        int[] states = {2 + 32 + 64 + 128, 0, 0, 1 + 16 + 32, 16};
        int[] lives = {8, 13, 3, 8, 3};
        for (int r = 0; r < 5; r++) {
            Wall.due("next of row " + r, table[48 * r], nexts[r]);
            Wall.due("state of row " + r, table[48 * r + STATE], states[r]);
            Wall.due("lives of row " + r, table[48 * r + LIVES + 3], lives[r]);
            int[] fields = Arrays.copyOfRange(table, 48 * r, 48 * r + SUM);
            Wall.due("sum of row " + r, table[48 * r + SUM] << 8 | table[48 * r + SUM + 1], Wall.sumOf(fields));
        }
        Wall v = right("read back", table, 5);
        Wall.due("laid again", v.x.export(), 240);
        for (int i = 0; i < 240; i++) {
            Wall.due("laid again, byte " + i, v.x.tape(i), table[i]);
        }
    }
}
