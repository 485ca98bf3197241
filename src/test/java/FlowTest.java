/** Promises 20 to 26: flows, states, spans, pools, changed addresses. */
public final class FlowTest {
    private static final int NONE = PacketWall.NONE, UNKNOWN = PacketWall.UNKNOWN, OUTSIDE = PacketWall.OUTSIDE, STATE = PacketWall.STATE;
    private static final int ROOM = PacketWall.ROOM, NOT_BEGUN = PacketWall.NOT_BEGUN, REFUSED = PacketWall.REFUSED, OUT = PacketWall.OUT;
    private static final int SYN = Wall.SYN, FIN = Wall.FIN, RST = Wall.RST, ACK = Wall.ACK;
    /** By class 0 to 5. */
    private static final int[] FLAGS = {SYN, SYN | ACK, FIN | ACK, RST, ACK, 8};
    private static final String[] TABLE = {
        "1..A.", ".2.A.", "..4A3", ".2.A.", "..4A3", "..5A3", "..4A4", "..6A7", "..6A8", "..5A5",
        "..6A9", "..6A9", "..7A7", "..6A7", "..6A8", "..8A8", "1.9A9", "..9A9", "1..A.", "...A."
    };
    private static final int[] LIVES = {10, 10, 200, 40, 40, 20, 40, 40, 8, 3};

    public static void main(String[] args) {
        whatHasEnds();
        beginnings();
        allStates();
        classes();
        spans();
        spansThatWrap();
        asNew();
        datagrams();
        controls();
        related();
        sixes();
        figures();
        livesAndCloses();
        roomForFlows();
        pools();
        changes();
        turns();
        Wall.finish();
    }

    private static int track(Wall w, int[] packet) {
        return w.packet(0, packet).x.track(0);
    }

    private static int stream(Wall w, int side, long sequence, int flags) {
        return track(w, Wall.streamPacket(side, sequence, flags, 4000, 0));
    }

    private static void whatHasEnds() {
        Wall w = Wall.fresh();
        Wall.due("nothing", w.x.track(0), UNKNOWN);
        Wall.due("packet 24", w.x.track(24), UNKNOWN);
        Wall.due("a finding", track(w, Wall.b(1)), STATE);
        Wall.due("no net", track(w, Wall.link(5, Wall.b(1))), STATE);
        Wall.due("a finding behind the ends", track(w, Wall.link(4, Wall.four(1, 1, 2, Wall.control(3, 0, Wall.b(0x45))))), STATE);
        Wall.due("REST behind the net", track(w, Wall.link(4, Wall.four(99, 1, 2, Wall.b(1)))), STATE);
        Wall.due("FOUR behind FOUR", track(w, Wall.link(4, Wall.four(4, 1, 2, Wall.four(17, 1, 2, Wall.datagram(1, 2, Wall.b()))))), STATE);
        Wall.due("a piece", track(w, Wall.link(4, Wall.fourPiece(17, 1, 1, 0, 1, 2, Wall.datagram(1, 2, Wall.b())))), STATE);
        Wall.due("a PART", track(w, Wall.link(6, Wall.six(44, 1, 2, Wall.part(17, 0, 0, 1, Wall.datagram(1, 2, Wall.b()))))), STATE);
        Wall.due("no flow", w.x.told(3), 0);
        Wall.due("HOPS, ROUTE between", track(w, Wall.link(6, Wall.six(0, 1, 2, Wall.hops(43, 0, Wall.route(17, 0, 0, Wall.datagram(1, 2, Wall.b())))))), 0);
        Wall.due("its next", w.x.flow(0, 0), 17);
    }

    private static void beginnings() {
        for (int sort = 1; sort < 6; sort++) {
            Wall w = Wall.fresh();
            Wall.due("a stream of class " + sort, stream(w, 0, 1, FLAGS[sort]), NOT_BEGUN);
            Wall.due("no flow", w.x.told(3), 0);
        }
        Wall w = Wall.fresh();
        Wall.due("class 0", stream(w, 0, 1, SYN), 0);
        for (int type : new int[] {0, 3, 11, 5}) {
            Wall.due("control " + type, track(w, Wall.link(4, Wall.four(1, 10, 11, Wall.control(type, 1 << 16, Wall.b())))), NOT_BEGUN);
        }
        Wall.due("control 8", track(w, Wall.link(4, Wall.four(1, 10, 11, Wall.control(8, 1 << 16, Wall.b())))), 1);
        Wall.due("a datagram", track(w, Wall.datagramPacket(10, 1, 11, 2)), 2);
        w.x.close(1);
        Wall.due("the least free number", track(w, Wall.datagramPacket(10, 1, 11, 3)), 1);
    }

    /** A wall whose flow 0 is in a state, by the shortest way there; both sides' numbers stay at their first ones. */
    private static Wall inState(int state) {
        String[] ways = {"", "b1", "b1 a4", "b1 a4 a2", "b1 a4 b2", "b1 a4 a2 b2", "b1 a4 a2 b4", "b1 a4 b2 a4", "b1 a4 a2 b2 a4", "a3"};
        Wall w = Wall.fresh();
        stream(w, 0, 100, SYN);
        for (String step : ways[state - 1].split(" ")) {
            if (!step.isEmpty()) {
                step(w, step.charAt(0) - 'a', step.charAt(1) - '0');
            }
        }
        Wall.due("the way to state " + state, w.x.flow(0, 1), state);
        return w;
    }

    private static int step(Wall w, int side, int sort) {
        int last = w.x.flow(0, 5 + side);
        return stream(w, side, last, FLAGS[sort]);
    }

    private static void allStates() {
        for (int state = 1; state <= 10; state++) {
            for (int side = 0; side < 2; side++) {
                for (int sort = 0; sort < 6; sort++) {
                    Wall w = inState(state);
                    w.x.tick(1);
                    int lives = w.x.flow(0, 4);
                    char next = sort == 5 ? '.' : TABLE[2 * (state - 1) + side].charAt(sort);
                    String what = "state " + state + " side " + side + " class " + sort;
                    Wall.due(what, step(w, side, sort), next == '.' ? REFUSED : 0);
                    int becomes = next == '.' ? state : Character.digit(next, 16);
                    Wall.due(what + " becomes", w.x.flow(0, 1), becomes);
                    Wall.due(what + " lives", w.x.flow(0, 4), next == '.' ? lives : LIVES[becomes - 1]);
                }
            }
        }
    }

    private static void classes() {
        Wall w = inState(3);
        Wall.due("RESET with BEGIN", stream(w, 0, 101, RST | SYN), 0);
        Wall.due("is a reset", w.x.flow(0, 1), 10);
        Wall.due("its LAST", w.x.flow(0, 5), 102);
        w = inState(3);
        Wall.due("END without ACK", stream(w, 0, 101, FIN), 0);
        Wall.due("is class 2", w.x.flow(0, 1), 4);
        w = inState(3);
        Wall.due("BEGIN with END", stream(w, 0, 101, SYN | FIN), REFUSED);
        w = Wall.fresh();
        Wall.due("BEGIN with END begins", stream(w, 0, 7, SYN | FIN), 0);
        Wall.due("both are counted", w.x.flow(0, 5), 9);
    }

    private static Wall open(int windowOne) {
        Wall w = Wall.fresh();
        stream(w, 0, 100, SYN);
        track(w, Wall.streamPacket(1, 900, SYN | ACK, windowOne, 0));
        Wall.due("open", stream(w, 0, 101, ACK), 0);
        return w;
    }

    private static void spans() {
        Wall w = open(50);
        Wall.due("50 fit", track(w, Wall.streamPacket(0, 101, ACK, 4000, 50)), 0);
        Wall.due("LAST", w.x.flow(0, 5), 151);
        Wall.due("51 are out", track(w, Wall.streamPacket(0, 151, ACK, 4000, 51)), OUT);
        Wall.due("50 and END are out", track(w, Wall.streamPacket(0, 151, FIN | ACK, 4000, 50)), OUT);
        Wall.due("49 and END fit", track(w, Wall.streamPacket(0, 151, FIN | ACK, 4000, 49)), 0);
        w = open(50);
        Wall.due("66000 behind", stream(w, 0, 101 - 66000, ACK), 0);
        Wall.due("LAST stays", w.x.flow(0, 5), 101);
        w.x.tick(3);
        Wall.due("66001 behind", track(w, Wall.streamPacket(0, 101 - 66001, ACK, 9, 0)), OUT);
        Wall.due("its window is not taken", w.x.flow(0, 7), 4000);
        Wall.due("nor does it live on", w.x.flow(0, 4), 197);
        Wall.due("nor counts", w.x.flowed(0, 2), 3);
        Wall.due("refused ahead of out", stream(w, 0, 101 - 66001, SYN | ACK), REFUSED);
        Wall.due("a reset is never out", stream(w, 0, 5000000, RST), 0);
        w = open(50);
        Wall.due("the other side's window", track(w, Wall.streamPacket(1, 901, ACK, 7, 300)), 0);
        Wall.due("its own window", w.x.flow(0, 8), 7);
        Wall.due("its LAST", w.x.flow(0, 6), 1201);
        w = Wall.fresh();
        stream(w, 0, 100, SYN);
        Wall.due("BEGIN again, far off", stream(w, 0, 900000, SYN), 0);
        Wall.due("greater LAST", w.x.flow(0, 5), 900001);
        stream(w, 0, 5, SYN);
        Wall.due("a lesser one", w.x.flow(0, 5), 900001);
    }

    private static void spansThatWrap() {
        Wall w = Wall.fresh();
        stream(w, 0, 0xffffffffL, SYN);
        Wall.due("LAST wraps", w.x.flow(0, 5), 0);
        stream(w, 1, 0x7fffffffL, SYN | ACK);
        Wall.due("LAST as an int", w.x.flow(0, 6), Integer.MIN_VALUE);
        Wall.due("across 0", track(w, Wall.streamPacket(0, 0xfffffff0L, ACK, 4000, 20)), 0);
        Wall.due("LAST then", w.x.flow(0, 5), 4);
    }

    private static void asNew() {
        for (int state = 9; state <= 10; state++) {
            Wall w = inState(state);
            w.x.pool(0, 200, 5000, 1);
            w.x.change(0, 0);
            Wall.due("again from " + state, track(w, Wall.streamPacket(0, 5, SYN, 77, 0)), 0);
            int[] want = {6, 1, 1000, 80, 10, 6, 0, 77, 0, 5000, 0};
            for (int what = 0; what <= 10; what++) {
                Wall.due("as new " + what, w.x.flow(0, what), want[what]);
            }
            long[] wantLong = {10, 11, 1, 0, 44, 0};
            for (int what = 0; what <= 5; what++) {
                Wall.due("as new, long " + what, w.x.flowed(0, what), wantLong[what]);
            }
            Wall.due("side 1 has sent nothing", track(w, Wall.streamPacket(0, 6, RST, 77, 0)), 0);
        }
        Wall w = inState(1);
        stream(w, 0, 100, SYN);
        Wall.due("not from 1", w.x.flowed(0, 2), 2);
    }

    private static void datagrams() {
        Wall w = Wall.fresh();
        track(w, Wall.datagramPacket(10, 1, 11, 2));
        Wall.due("state", w.x.flow(0, 1), 0);
        Wall.due("lives", w.x.flow(0, 4), 15);
        w.x.tick(5);
        track(w, Wall.datagramPacket(10, 1, 11, 2));
        Wall.due("lives from the latest", w.x.flow(0, 4), 15);
        Wall.due("answered", track(w, Wall.datagramPacket(11, 2, 10, 1)), 0);
        Wall.due("state then", w.x.flow(0, 1), 1);
        Wall.due("lives then", w.x.flow(0, 4), 40);
        track(w, Wall.datagramPacket(10, 1, 11, 2));
        Wall.due("state stays", w.x.flow(0, 1), 1);
        Wall.due("packets 0", w.x.flowed(0, 2), 3);
        Wall.due("packets 1", w.x.flowed(0, 3), 1);
        Wall.due("bytes 0", w.x.flowed(0, 4), 3 * 33);
        Wall.due("bytes 1", w.x.flowed(0, 5), 33);
        Wall.due("other ports", track(w, Wall.datagramPacket(11, 1, 10, 2)), 1);
        Wall.due("from to itself", track(w, Wall.datagramPacket(9, 9, 9, 9)), 2);
        track(w, Wall.datagramPacket(9, 9, 9, 9));
        Wall.due("is side 0", w.x.flowed(2, 2), 2);
    }

    private static int[] controlPacket(int type, int id, long from, long to) {
        return Wall.link(4, Wall.four(1, from, to, Wall.control(type, (long) id << 16 | 9, Wall.b())));
    }

    private static void controls() {
        Wall w = Wall.fresh();
        track(w, controlPacket(8, 0xfffe, 10, 11));
        Wall.due("next", w.x.flow(0, 0), 1);
        Wall.due("port 0", w.x.flow(0, 2), 0xfffe);
        Wall.due("port 1", w.x.flow(0, 3), 0xfffe);
        Wall.due("lives", w.x.flow(0, 4), 5);
        Wall.due("the answer", track(w, controlPacket(0, 0xfffe, 11, 10)), 0);
        Wall.due("its side", w.x.flowed(0, 3), 1);
        Wall.due("state", w.x.flow(0, 1), 0);
        Wall.due("another id", track(w, controlPacket(0, 1, 11, 10)), NOT_BEGUN);
        Wall.due("type 3 that quotes nothing", track(w, controlPacket(3, 0xfffe, 10, 11)), 0);
    }

    private static int[] quoting(int type, int[] net) {
        return Wall.link(4, Wall.four(1, 99, 98, Wall.control(type, 0, net)));
    }

    private static void related() {
        Wall w = open(50);
        w.x.tick(10);
        int[] there = Wall.four(6, 10, 11, Wall.stream(1000, 80, 1, ACK, 9, Wall.b()));
        int[] back = Wall.four(6, 11, 10, Wall.stream(80, 1000, 1, RST, 9, Wall.b()));
        Wall.due("type 3, this way", track(w, quoting(3, there)), 0);
        Wall.due("type 11, the other", track(w, quoting(11, back)), 0);
        Wall.due("it changes no life", w.x.flow(0, 4), 190);
        Wall.due("it counts nothing", w.x.flowed(0, 2), 2);
        Wall.due("it changes no state", w.x.flow(0, 1), 3);
        Wall.due("related to none", track(w, quoting(3, Wall.four(17, 10, 11, Wall.datagram(1000, 80, Wall.b())))), NOT_BEGUN);
        Wall.due("of SIX", track(w, quoting(3, Wall.six(6, 10, 11, Wall.stream(1000, 80, 1, ACK, 9, Wall.b())))), NOT_BEGUN);
        Wall.due("type 8 is of itself", track(w, quoting(8, there)), 1);
        Wall.due("no turn for it", w.packet(0, quoting(3, there)).x.turn(0), STATE);
    }

    private static void sixes() {
        Wall w = Wall.fresh();
        int[] there = Wall.link(6, Wall.six(17, 10, 11, Wall.datagram(1, 2, Wall.b())));
        Wall.due("four", track(w, Wall.datagramPacket(10, 1, 11, 2)), 0);
        Wall.due("six is another", track(w, there), 1);
        Wall.due("four is no six", w.x.flow(0, 10), 0);
        Wall.due("six", w.x.flow(1, 10), 1);
        track(w, Wall.link(6, Wall.six(17, -1, Long.MIN_VALUE, Wall.datagram(1, 2, Wall.b()))));
        Wall.due("from", w.x.flowed(2, 0), -1);
        Wall.due("to", w.x.flowed(2, 1), Long.MIN_VALUE);
    }

    private static void figures() {
        Wall w = Wall.fresh();
        track(w, Wall.link(4, Wall.four(6, 0xfffffffeL, 11, Wall.stream(65535, 0, 100, SYN, 65535, Wall.run(3)))));
        int[] want = {6, 1, 65535, 0, 10, 104, 0, 65535, 0, NONE, 0};
        for (int what = 0; what <= 10; what++) {
            Wall.due("flow " + what, w.x.flow(0, what), want[what]);
        }
        long[] wantLong = {0xfffffffeL, 11, 1, 0, 47, 0};
        for (int what = 0; what <= 5; what++) {
            Wall.due("flowed " + what, w.x.flowed(0, what), wantLong[what]);
        }
        Wall.due("flow -1", w.x.flow(0, -1), OUTSIDE);
        Wall.due("flow 11", w.x.flow(0, 11), OUTSIDE);
        Wall.due("flow of none", w.x.flow(1, 11), UNKNOWN);
        Wall.due("flow of 24", w.x.flow(24, 0), UNKNOWN);
        Wall.due("flow of -1", w.x.flow(-1, 0), UNKNOWN);
        Wall.due("flowed -1", w.x.flowed(0, -1), NONE);
        Wall.due("flowed 6", w.x.flowed(0, 6), NONE);
        Wall.due("flowed of none", w.x.flowed(1, 0), NONE);
    }

    private static void livesAndCloses() {
        Wall w = inState(10);
        w.x.tick(2);
        Wall.due("one tick left", w.x.flow(0, 4), 1);
        w.x.tick(1);
        Wall.due("at the third it is gone", w.x.flow(0, 4), UNKNOWN);
        track(w, Wall.datagramPacket(10, 1, 11, 2));
        w.x.tick(1000);
        Wall.due("gone at once", w.x.told(3), 0);
        track(w, Wall.datagramPacket(10, 1, 11, 2));
        Wall.due("close", w.x.close(0), 1);
        Wall.due("close again", w.x.close(0), UNKNOWN);
        Wall.due("close 24", w.x.close(24), UNKNOWN);
        Wall.due("close -1", w.x.close(-1), UNKNOWN);
    }

    private static void roomForFlows() {
        Wall w = Wall.fresh();
        for (int f = 0; f < 24; f++) {
            Wall.due("flow " + f, track(w, Wall.datagramPacket(10, f, 11, 2)), f);
        }
        Wall.due("a 25th", track(w, Wall.datagramPacket(10, 24, 11, 2)), ROOM);
        Wall.due("one that can't begin", stream(w, 0, 1, ACK), NOT_BEGUN);
        Wall.due("one of them", track(w, Wall.datagramPacket(11, 2, 10, 23)), 23);
    }

    private static void pools() {
        Wall w = Wall.fresh();
        Wall.due("pool -1", w.x.pool(-1, 1, 1, 1), OUTSIDE);
        Wall.due("pool 4", w.x.pool(4, 1, 1, 1), OUTSIDE);
        Wall.due("no port", w.x.pool(0, 1, 1, 0), OUTSIDE);
        Wall.due("33 ports", w.x.pool(0, 1, 1, 33), OUTSIDE);
        Wall.due("port 0", w.x.pool(0, 1, 0, 1), OUTSIDE);
        Wall.due("port 65536", w.x.pool(0, 1, 65536, 1), OUTSIDE);
        Wall.due("up to 65536", w.x.pool(0, 1, 65505, 32), OUTSIDE);
        Wall.due("up to 65535", w.x.pool(0, 1, 65504, 32), 32);
        Wall.due("very far", w.x.pool(0, 1, Integer.MAX_VALUE, 32), OUTSIDE);
        Wall.due("laid anew", w.x.pool(0, -1, 1, 1), 1);
        track(w, Wall.datagramPacket(10, 1, 11, 2));
        w.x.change(0, 0);
        Wall.due("a flow is changed by it", w.x.pool(0, -1, 1, 1), STATE);
        Wall.due("outside all the same", w.x.pool(0, -1, 0, 1), OUTSIDE);
        Wall.due("another one", w.x.pool(1, -1, 1, 1), 1);
        w.x.close(0);
        Wall.due("it is free again", w.x.pool(0, -1, 1, 1), 1);
    }

    private static void changes() {
        Wall w = Wall.fresh();
        track(w, Wall.datagramPacket(10, 1, 11, 2));
        track(w, Wall.datagramPacket(10, 2, 11, 2));
        track(w, Wall.datagramPacket(10, 3, 11, 2));
        track(w, controlPacket(8, 1, 10, 11));
        track(w, Wall.link(6, Wall.six(17, 10, 11, Wall.datagram(1, 2, Wall.b()))));
        stream(w, 0, 1, SYN);
        Wall.due("no flow", w.x.change(6, 9), UNKNOWN);
        Wall.due("pool -1", w.x.change(0, -1), OUTSIDE);
        Wall.due("pool 4", w.x.change(0, 4), OUTSIDE);
        Wall.due("no pool", w.x.change(0, 0), STATE);
        w.x.pool(0, 200, 5000, 2);
        w.x.pool(1, 200, 5001, 2);
        w.x.pool(2, 201, 5000, 1);
        Wall.due("a control", w.x.change(3, 0), STATE);
        Wall.due("a six", w.x.change(4, 0), STATE);
        Wall.due("not changed yet", w.x.flow(0, 9), NONE);
        Wall.due("the least port", w.x.change(0, 0), 5000);
        Wall.due("its port", w.x.flow(0, 9), 5000);
        Wall.due("changed already", w.x.change(0, 1), STATE);
        Wall.due("another pool, the next port", w.x.change(1, 1), 5001);
        Wall.due("a port of another pool is taken, whatever the next", w.x.change(5, 0), ROOM);
        Wall.due("another address", w.x.change(5, 2), 5000);
        w.x.close(0);
        Wall.due("a port that is free again", w.x.change(2, 0), 5000);
    }

    private static void turns() {
        Wall w = Wall.fresh();
        Wall.due("nothing", w.x.turn(0), UNKNOWN);
        Wall.due("no ends", w.packet(0, Wall.b(1)).x.turn(0), STATE);
        track(w, Wall.datagramPacket(10, 1, 11, 2));
        Wall.due("of a flow that is not changed", w.x.turn(0), STATE);
        w.x.pool(0, -2, 5000, 2);
        w.x.change(0, 0);
        Wall.due("from side 0", w.x.turn(0), 0);
        Wall.due("its from", w.x.field(0, 1, 9), 0xfffffffeL);
        Wall.due("its to", w.x.field(0, 1, 10), 11);
        Wall.due("its port", w.x.field(0, 2, 0), 5000);
        Wall.due("its other port", w.x.field(0, 2, 1), 2);
        Wall.due("sums are right", w.x.repair(0), 0);
        Wall.due("it is of none now", w.x.turn(0), STATE);
        Wall.due("side 1 to the changed ends", track(w, Wall.datagramPacket(11, 2, 0xfffffffeL, 5000)), 0);
        Wall.due("counts for side 1", w.x.flowed(0, 3), 1);
        Wall.due("from side 1", w.x.turn(0), 1);
        Wall.due("its to is side 0's", w.x.field(0, 1, 10), 10);
        Wall.due("its port is side 0's", w.x.field(0, 2, 1), 1);
        Wall.due("its from stays", w.x.field(0, 1, 9), 11);
        Wall.due("sums are right again", w.x.repair(0), 0);
        int[] quoted = Wall.four(17, 10, 11, Wall.datagram(1, 2, Wall.b()));
        Wall.due("no turn for what is related", w.packet(0, quoting(3, quoted)).x.turn(0), STATE);
        Wall.due("it is related all the same", w.x.track(0), 0);
        Wall.due("side 1 to side 0's own ends", track(w, Wall.datagramPacket(11, 2, 10, 1)), 1);
        Wall.due("the flow's own ends stay", w.x.flowed(0, 0), 10);
    }
}
