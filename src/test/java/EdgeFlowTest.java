import java.util.function.Consumer;

/** Each boundary of FLOWS, STATES, SPANS, LIVES, POOLS and CHANGED addresses: promises 20 to 26. */
public final class EdgeFlowTest {
    private static final int NONE = PacketWall.NONE, UNKNOWN = PacketWall.UNKNOWN, OUTSIDE = PacketWall.OUTSIDE, STATE = PacketWall.STATE;
    private static final int ROOM = PacketWall.ROOM, NOT_BEGUN = PacketWall.NOT_BEGUN, REFUSED = PacketWall.REFUSED, OUT = PacketWall.OUT;
    private static final int SYN = Wall.SYN, FIN = Wall.FIN, RST = Wall.RST, ACK = Wall.ACK;
    private static final int LEAST = Integer.MIN_VALUE, MOST = Integer.MAX_VALUE;
    private static final int[] NO_FLOWS = {1, -1, 24, LEAST, MOST};
    /** By class 0 to 5. */
    private static final int[] FLAGS = {SYN, SYN | ACK, FIN | ACK, RST, ACK, 0};
    private static final String[] TABLE = {
        "1..A.", ".2.A.", "..4A3", ".2.A.", "..4A3", "..5A3", "..4A4", "..6A7", "..6A8", "..5A5",
        "..6A9", "..6A9", "..7A7", "..6A7", "..6A8", "..8A8", "1.9A9", "..9A9", "1..A.", "...A."
    };
    private static final String[] WAYS = {"", "b1", "b1a4", "b1a4a2", "b1a4b2", "b1a4a2b2", "b1a4a2b4", "b1a4b2a4", "b1a4a2b2a4", "a3"};
    private static final int[] LIVES = {10, 10, 200, 40, 40, 20, 40, 40, 8, 3};

    public static void main(String[] args) {
        trackNumbers();
        packetsWithoutEnds();
        whatBeginsNone();
        a25thFlow();
        eachFieldOfTheTable();
        flagsByClass();
        begunAgain();
        goesOn();
        theGreatestLast();
        theGreatestLastByWrapping();
        below66000();
        aboveTheWindow();
        spansThatWrapAround();
        neverOut();
        aSideThatSentNothing();
        aSideWithoutLast();
        livesOfStreams();
        livesOfTheOthers();
        portsOfControls();
        relatedOnes();
        oneEndThatIsAnother();
        flowNumbers();
        closeNumbers();
        poolNumbers();
        poolsThatChangeAFlow();
        changeNumbers();
        noPortIsFree();
        turnNumbers();
        turnsBothWays();
        turnsOfAnyPacket();
        aPacketOfTwoFlows();
        aFlowInPlaceOfAChangedOne();
        Wall.finish();
    }

    private static int track(Wall w, int[] packet) {
        return w.packet(0, packet).x.track(0);
    }

    private static int stream(Wall w, int side, long sequence, int flags, int window, int data) {
        return track(w, Wall.streamPacket(side, sequence, flags, window, data));
    }

    private static void refused(String what, Consumer<Wall> before, int[] packet, int answer) {
        Consumer<Wall> all = w -> {
            before.accept(w);
            w.packet(0, packet);
        };
        Wall.refused(what, all, x -> x.track(0), answer);
    }

    private static int[] control(int type, int id, long from, long to) {
        return Wall.link(4, Wall.four(1, from, to, Wall.control(type, (long) id << 16 | 0xffff, Wall.b())));
    }

    private static int[] sixDatagram() {
        return Wall.link(6, Wall.six(17, 10, 11, Wall.datagram(1, 2, Wall.b(9))));
    }

    // ---- what has ends, what begins a flow

    private static void trackNumbers() {
        for (int p : new int[] {0, 23}) {
            Wall w = Wall.fresh().packet(p, Wall.datagramPacket(10, 1, 11, 2));
            Wall.due("track " + p, w.x.track(p), 0);
        }
        for (int p : NO_FLOWS) {
            Wall.refused("track " + p, w -> w.packet(0, Wall.datagramPacket(10, 1, 11, 2)), x -> x.track(p), UNKNOWN);
            Wall.refused("turn " + p, w -> w.packet(0, Wall.datagramPacket(10, 1, 11, 2)), x -> x.turn(p), UNKNOWN);
        }
    }

    private static void packetsWithoutEnds() {
        int[] datagram = Wall.datagram(1, 2, Wall.b());
        int[][] packets = {Wall.b(), Wall.link(5, Wall.b()), Wall.link(4, Wall.four(99, 1, 2, Wall.b())), Wall.link(6, Wall.six(99, 1, 2, Wall.b(1))),
            Wall.link(4, Wall.four(17, 1, 2, Wall.with(datagram, 5, 9))),
            Wall.link(4, Wall.fourPiece(17, 1, 1, 0, 1, 2, datagram)), Wall.link(4, Wall.fourPiece(17, 1, 0, 1, 1, 2, datagram)),
            Wall.link(6, Wall.six(44, 1, 2, Wall.part(17, 0, 0, 1, datagram))), Wall.link(6, Wall.six(0, 1, 2, Wall.hops(44, 0, Wall.part(17, 0, 0, 1, datagram)))),
            Wall.link(4, Wall.four(4, 1, 2, Wall.four(17, 1, 2, datagram))), Wall.link(6, Wall.six(41, 1, 2, Wall.six(17, 1, 2, datagram))),
            Wall.link(4, Wall.four(47, 1, 2, Wall.tunnel(0, 4, Wall.four(17, 1, 2, datagram))))};
        for (int i = 0; i < packets.length; i++) {
            refused("no ends, " + i, w -> { }, packets[i], STATE);
            refused("no ends, behind a flow, " + i, w -> track(w, Wall.datagramPacket(1, 1, 2, 2)), packets[i], STATE);
        }
        for (int flags : new int[] {2, 4, 6}) {
            Wall.due("FOUR with flags " + flags + " is no piece", track(Wall.fresh(), Wall.link(4, Wall.fourPiece(17, 1, flags, 0, 1, 2, datagram))), 0);
        }
        int[] far = Wall.hops(43, 0, Wall.route(43, 0, 0, Wall.route(17, 0, 0, datagram)));
        Wall.due("HOPS, ROUTE, ROUTE between", track(Wall.fresh(), Wall.link(6, Wall.six(0, 1, 2, far))), 0);
        Wall.due("TAGS ahead", track(Wall.fresh(), Wall.link(9, Wall.tag(0, 0, 4, Wall.four(17, 1, 2, datagram)))), 0);
    }

    private static void whatBeginsNone() {
        for (int sort = 1; sort <= 5; sort++) {
            refused("class " + sort, w -> { }, Wall.streamPacket(0, 1, FLAGS[sort], 9, 0), NOT_BEGUN);
        }
        Wall.due("class 0", track(Wall.fresh(), Wall.streamPacket(0, 1, FLAGS[0], 9, 0)), 0);
        for (int type : new int[] {0, 3, 7, 9, 11, 255}) {
            refused("control " + type, w -> { }, control(type, 1, 10, 11), NOT_BEGUN);
        }
        Wall.due("control 8", track(Wall.fresh(), control(8, 1, 10, 11)), 0);
        Wall.due("a datagram", track(Wall.fresh(), Wall.datagramPacket(10, 1, 11, 2)), 0);
    }

    private static void allFlows(Wall w) {
        for (int f = 0; f < 24; f++) {
            Wall.due("flow " + f, track(w, Wall.datagramPacket(10, f, 11, 2)), f);
        }
    }

    private static void a25thFlow() {
        refused("a 25th: datagram", EdgeFlowTest::allFlows, Wall.datagramPacket(10, 24, 11, 2), ROOM);
        refused("a 25th: stream", EdgeFlowTest::allFlows, Wall.streamPacket(0, 1, SYN, 9, 0), ROOM);
        refused("a 25th: control", EdgeFlowTest::allFlows, control(8, 1, 10, 11), ROOM);
        refused("what begins none", EdgeFlowTest::allFlows, Wall.streamPacket(0, 1, ACK, 9, 0), NOT_BEGUN);
        refused("what has no ends", EdgeFlowTest::allFlows, Wall.link(5, Wall.b()), STATE);
        Wall w = Wall.fresh();
        allFlows(w);
        Wall.due("the 24th goes on", track(w, Wall.datagramPacket(10, 23, 11, 2)), 23);
        w.x.close(7);
        w.x.close(3);
        Wall.due("the least free number", track(w, Wall.datagramPacket(10, 24, 11, 2)), 3);
        Wall.due("the next one", track(w, Wall.datagramPacket(10, 25, 11, 2)), 7);
        Wall.due("no more", track(w, Wall.datagramPacket(10, 26, 11, 2)), ROOM);
        w.x.tick(15);
        Wall.due("all have lived", track(w, Wall.datagramPacket(10, 26, 11, 2)), 0);
    }

    // ---- states

    /** Flow 0 in a state; side 0's LAST is 101 or 102, side 1's 901 or 902 or none. */
    private static Consumer<Wall> inState(int state) {
        return w -> {
            stream(w, 0, 100, SYN, 4000, 0);
            for (int i = 0; i < WAYS[state - 1].length(); i += 2) {
                step(w, WAYS[state - 1].charAt(i) - 'a', WAYS[state - 1].charAt(i + 1) - '0');
            }
            Wall.due("the way to state " + state, w.x.flow(0, 1), state);
            w.x.tick(1);
        };
    }

    private static int next(Wall w, int side) {
        int last = w.x.flow(0, 5 + side);
        return last == 0 ? 900 : last;
    }

    private static void step(Wall w, int side, int sort) {
        stream(w, side, next(w, side), FLAGS[sort], 4000, 0);
    }

    private static void eachFieldOfTheTable() {
        for (int state = 1; state <= 10; state++) {
            for (int side = 0; side < 2; side++) {
                for (int sort = 0; sort <= 5; sort++) {
                    char becomes = sort == 5 ? '.' : TABLE[2 * (state - 1) + side].charAt(sort);
                    String what = "state " + state + ", side " + side + ", class " + sort;
                    Wall w = Wall.fresh();
                    inState(state).accept(w);
                    int[] packet = Wall.streamPacket(side, next(w, side), FLAGS[sort], 4000, 0);
                    if (becomes == '.') {
                        refused(what, inState(state), packet, REFUSED);
                    } else {
                        Wall.due(what, track(w, packet), 0);
                        Wall.due(what + ": becomes", w.x.flow(0, 1), Character.digit(becomes, 16));
                        Wall.due(what + ": lives", w.x.flow(0, 4), LIVES[Character.digit(becomes, 16) - 1]);
                    }
                }
            }
        }
    }

    /** In state 3, where each class of side 0 but 0 and 1 becomes another state, and 2 side 1's way to tell 1. */
    private static void flagsByClass() {
        for (int flags = 0; flags < 256; flags++) {
            boolean reset = (flags & 4) != 0;
            boolean begin = (flags & 2) != 0;
            boolean ends = (flags & 1) != 0;
            boolean ack = (flags & 16) != 0;
            Wall w = Wall.fresh();
            inState(3).accept(w);
            int state = reset ? 10 : begin ? 3 : ends ? 4 : 3;
            boolean taken = reset || !begin && (ends || ack);
            Wall.due("flags " + flags, stream(w, 0, 101, flags, 9, 0), taken ? 0 : REFUSED);
            Wall.due("flags " + flags + ": state", w.x.flow(0, 1), state);
            int span = (begin ? 1 : 0) + (ends ? 1 : 0);
            Wall.due("flags " + flags + ": LAST", w.x.flow(0, 5), taken ? 101 + span : 101);
            Wall.due("flags " + flags + ": begins", stream(Wall.fresh(), 0, 1, flags, 9, 0), begin && !ack && !reset ? 0 : NOT_BEGUN);
        }
    }

    private static void begunAgain() {
        for (int state = 1; state <= 10; state++) {
            Wall w = Wall.fresh();
            inState(state).accept(w);
            boolean anew = state >= 9;
            boolean taken = anew || state == 1;
            long packets = w.x.flowed(0, 2);
            Wall.due("BEGIN in state " + state, stream(w, 0, 5, SYN, 7, 0), taken ? 0 : REFUSED);
            Wall.due("packets of side 0, state " + state, w.x.flowed(0, 2), anew ? 1 : taken ? packets + 1 : packets);
            if (anew) {
                int[] want = {6, 1, 1000, 80, 10, 6, 0, 7, 0, NONE, 0};
                for (int what = 0; what <= 10; what++) {
                    Wall.due("as new from " + state + ", " + what, w.x.flow(0, what), want[what]);
                }
                Wall.due("packets of side 1 as new", w.x.flowed(0, 3), 0);
                Wall.due("bytes of side 0", w.x.flowed(0, 4), 44);
                Wall.due("bytes of side 1", w.x.flowed(0, 5), 0);
                w.x.export();
                Wall.due("side 1 sent nothing, has no LAST", w.x.tape(1), 1 + 32);
            }
        }
    }

    private static void goesOn() {
        for (int state = 9; state <= 10; state++) {
            for (int side = 0; side < 2; side++) {
                for (int sort = 2; sort <= 4; sort++) {
                    if (TABLE[2 * (state - 1) + side].charAt(sort) == '.') {
                        continue;
                    }
                    Wall w = Wall.fresh();
                    inState(state).accept(w);
                    long packets = w.x.flowed(0, 2 + side);
                    long others = w.x.flowed(0, 3 - side);
                    int last = w.x.flow(0, 6 - side);
                    step(w, side, sort);
                    String what = "not as new, state " + state + ", side " + side + ", class " + sort;
                    Wall.due(what + ": packets", w.x.flowed(0, 2 + side), packets + 1);
                    Wall.due(what + ": the other's", w.x.flowed(0, 3 - side), others);
                    Wall.due(what + ": the other's LAST", w.x.flow(0, 6 - side), last);
                }
            }
        }
    }

    // ---- spans

    /** Flow 0 in state 3, LASTS 101 and 901, WINDOWS 4000 and as told. */
    private static Consumer<Wall> open(int windowOne) {
        return w -> {
            stream(w, 0, 100, SYN, 4000, 0);
            stream(w, 1, 900, SYN | ACK, windowOne, 0);
            Wall.due("open", stream(w, 0, 101, ACK, 4000, 0), 0);
        };
    }

    private static Wall opened(int windowOne) {
        Wall w = Wall.fresh();
        open(windowOne).accept(w);
        return w;
    }

    private static void theGreatestLast() {
        Wall w = opened(4000);
        int[] from = {101, 95, 100, 101, 90, 111};
        int[] data = {10, 10, 11, 10, 10, 1};
        int[] last = {111, 111, 111, 111, 111, 112};
        for (int i = 0; i < from.length; i++) {
            Wall.due("from " + from[i], stream(w, 0, from[i], ACK, 10 + i, data[i]), 0);
            Wall.due("LAST " + i, w.x.flow(0, 5), last[i]);
            Wall.due("the latest WINDOW " + i, w.x.flow(0, 7), 10 + i);
        }
        Wall.due("END counts one", stream(w, 0, 112, FIN | ACK, 0, 3), 0);
        Wall.due("LAST then", w.x.flow(0, 5), 116);
        Wall.due("WINDOW 0", w.x.flow(0, 7), 0);
        Wall.due("side 1's stay", w.x.flow(0, 6), 901);
    }

    /** A reset is never OUT, so it shows which of two numbers is the greater. */
    private static void theGreatestLastByWrapping() {
        int[] ahead = {-1, 0, 1, MOST - 1, MOST, LEAST, LEAST + 1};
        boolean[] greater = {false, false, true, true, true, false, false};
        for (int i = 0; i < ahead.length; i++) {
            Wall w = opened(4000);
            Wall.due("a reset " + ahead[i] + " ahead", stream(w, 0, 101 + ahead[i], RST, 9, 0), 0);
            Wall.due("LAST, " + ahead[i] + " ahead", w.x.flow(0, 5), greater[i] ? 101 + ahead[i] : 101);
        }
        Wall w = Wall.fresh();
        stream(w, 0, 0xfffffffeL, SYN, 9, 0);
        Wall.due("the greatest of all", w.x.flow(0, 5), -1);
        stream(w, 0, 0xffffffffL, SYN, 9, 0);
        Wall.due("0 is behind it", w.x.flow(0, 5), 0);
        stream(w, 0, 0xfffffffeL, SYN, 9, 0);
        Wall.due("and stays", w.x.flow(0, 5), 0);
        stream(w, 0, 0x7ffffffeL, SYN, 9, 0);
        Wall.due("up to the greatest int", w.x.flow(0, 5), MOST);
    }

    private static void below66000() {
        for (int flags : new int[] {ACK, FIN, FIN | ACK}) {
            Wall w = opened(50);
            Wall.due("-66000, flags " + flags, stream(w, 0, 101 - 66000, flags, 9, 0), 0);
            Wall.due("LAST stays", w.x.flow(0, 5), 101);
            Wall.due("its window is taken", w.x.flow(0, 7), 9);
            refused("-66001, flags " + flags, open(50), Wall.streamPacket(0, 101 - 66001, flags, 9, 0), OUT);
        }
        refused("-66001 with bytes that reach it", open(4000), Wall.streamPacket(0, 101 - 66001, ACK, 9, 300), OUT);
        refused("-66001 of side 1", open(50), Wall.streamPacket(1, 901 - 66001, ACK, 9, 0), OUT);
        Wall.due("-66000 of side 1", stream(opened(50), 1, 901 - 66000, ACK, 9, 0), 0);
        refused("the least", open(50), Wall.streamPacket(0, 101 + LEAST, ACK, 9, 0), OUT);
    }

    private static void aboveTheWindow() {
        for (int window : new int[] {0, 1, 50, 300}) {
            Wall.due("as many as the window, " + window, stream(opened(window), 0, 101, ACK, 9, window), 0);
            refused("one above the window, " + window, open(window), Wall.streamPacket(0, 101, ACK, 9, window + 1), OUT);
            refused("END above the window, " + window, open(window), Wall.streamPacket(0, 101, FIN | ACK, 9, window), OUT);
        }
        Wall.due("END in the window", stream(opened(50), 0, 101, FIN | ACK, 9, 49), 0);
        Wall.due("from the window's end, nothing", stream(opened(65535), 0, 101 + 65535, ACK, 9, 0), 0);
        refused("from behind the window's end, nothing", open(65535), Wall.streamPacket(0, 101 + 65536, ACK, 9, 0), OUT);
        Wall.due("side 1, side 0's window", stream(opened(0), 1, 901 + 4000, ACK, 9, 0), 0);
        refused("side 1, above side 0's window", open(0), Wall.streamPacket(1, 901 + 4001, ACK, 9, 0), OUT);
        Wall w = opened(50);
        stream(w, 1, 901, ACK, 3, 0);
        Wall.due("the latest window: four are out", stream(w, 0, 101, ACK, 9, 4), OUT);
        Wall.due("three are not", stream(w, 0, 101, ACK, 9, 3), 0);
    }

    private static void spansThatWrapAround() {
        Wall w = opened(50);
        Wall.due("so far ahead that it wraps", stream(w, 0, 101 + MOST, ACK, 9, 1), 0);
        Wall.due("LAST stays", w.x.flow(0, 5), 101);
        refused("as far ahead as can be", open(50), Wall.streamPacket(0, 101 + MOST, ACK, 9, 0), OUT);
        w = Wall.fresh();
        stream(w, 0, 0xffffffe0L, SYN, 4000, 0);
        stream(w, 1, 900, SYN | ACK, 50, 0);
        Wall.due("up to 0 and on", stream(w, 0, 0xffffffe1L, ACK, 9, 50), 0);
        Wall.due("LAST", w.x.flow(0, 5), 19);
        Wall.due("66000 behind, below 0", stream(w, 0, 19 - 66000, ACK, 9, 0), 0);
        Wall.due("66001 behind, below 0", stream(w, 0, 19 - 66001, ACK, 9, 0), OUT);
        Wall.due("51 on", stream(w, 0, 19, ACK, 9, 51), OUT);
    }

    private static void neverOut() {
        Wall.due("RESET far ahead", stream(opened(0), 0, 101 + 70000, RST, 9, 300), 0);
        Wall.due("RESET far behind", stream(opened(0), 0, 101 - 70000, RST, 9, 0), 0);
        Wall.due("RESET with END, far", stream(opened(0), 1, 901 - 70000, RST | FIN | ACK, 9, 0), 0);
        Wall w = Wall.fresh();
        stream(w, 0, 100, SYN, 0, 0);
        Wall.due("BEGIN again, far ahead", stream(w, 0, 900000, SYN, 0, 300), 0);
        Wall.due("BEGIN and ACK", stream(w, 1, 900, SYN | ACK, 0, 0), 0);
        Wall.due("BEGIN and ACK again, far ahead", stream(w, 1, 900000, SYN | ACK, 0, 300), 0);
        Wall.due("BEGIN and ACK again, far behind", stream(w, 1, 900000 - 66001, SYN | ACK, 0, 0), 0);
        refused("refused ahead of out", open(0), Wall.streamPacket(0, 101 - 66001, SYN | ACK, 9, 0), REFUSED);
    }

    /** Only a table that is read back has a flow whose side 1 sent nothing where classes 2 and 4 are taken. */
    private static int[] row(int flags) {
        int[] row = Wall.join(Wall.b(6, flags), Wall.two(1000), Wall.two(80), Wall.two(20), Wall.two(30), Wall.number(10, 8), Wall.number(11, 8),
                Wall.number(101, 4), Wall.number(901, 4), Wall.number(100, 4), Wall.number(1, 4), Wall.number(44, 4));
        return Wall.join(row, Wall.two(Wall.sumOf(row)));
    }

    private static Consumer<Wall> restored(int flags) {
        return w -> Wall.due("restore", w.tape(row(flags)).x.restore(), 1);
    }

    private static Wall told(int flags) {
        Wall w = Wall.fresh();
        restored(flags).accept(w);
        return w;
    }

    private static void aSideThatSentNothing() {
        Wall.due("above the window of side 1, which sent nothing", stream(told(3 + 32 + 64), 0, 101, ACK, 9, 31), 0);
        refused("above the window of side 1, which sent", restored(3 + 32 + 64 + 128), Wall.streamPacket(0, 101, ACK, 9, 31), OUT);
        refused("below -66000, whoever sent", restored(3 + 32 + 64), Wall.streamPacket(0, 101 - 66001, ACK, 9, 0), OUT);
        refused("side 0 sent ever", restored(3 + 32 + 64), Wall.streamPacket(1, 901, ACK, 9, 21), OUT);
        Wall w = told(3 + 32 + 64);
        Wall.due("side 1 sends", stream(w, 1, 901, ACK, 30, 0), 0);
        Wall.due("then its window counts", stream(w, 0, 101, ACK, 9, 31), OUT);
    }

    private static void aSideWithoutLast() {
        Wall w = told(3 + 64 + 128);
        Wall.due("LAST without", w.x.flow(0, 5), 0);
        Wall.due("nothing is out, far behind", stream(w, 0, -70000, ACK, 9, 0), 0);
        Wall.due("then it has one, below 0 too", w.x.flow(0, 5), -70000);
        Wall.due("and what is above the window is out", stream(w, 0, -70000, ACK, 9, 31), OUT);
        Wall.due("nothing is out, far ahead", stream(told(3 + 64 + 128), 0, 5000000, ACK, 9, 300), 0);
        Wall.due("nothing of side 1 is out", stream(told(3 + 32 + 128), 1, 5000000, ACK, 9, 300), 0);
        refused("the other one has a LAST", restored(3 + 64 + 128), Wall.streamPacket(1, 901 - 66001, ACK, 9, 0), OUT);
    }

    // ---- lives

    private static void lives(String what, Wall w, int ticks) {
        Wall.due(what + ": lives", w.x.flow(0, 4), ticks);
        if (ticks > 1) {
            w.x.tick(ticks - 1);
            Wall.due(what + ": one tick before its end", w.x.flow(0, 4), 1);
        }
        w.x.tick(1);
        Wall.due(what + ": at its end", w.x.flow(0, 4), UNKNOWN);
        Wall.due(what + ": none", w.x.told(3), 0);
        Wall.due(what + ": of no flow", w.x.flowed(0, 0), NONE);
    }

    private static void livesOfStreams() {
        for (int state = 1; state <= 10; state++) {
            Wall w = Wall.fresh();
            inState(state).accept(w);
            lives("state " + state, w, LIVES[state - 1] - 1);
        }
        Wall w = opened(4000);
        w.x.tick(199);
        stream(w, 0, 101, ACK, 9, 0);
        lives("from each packet on", w, 200);
        w = opened(4000);
        w.x.tick(199);
        stream(w, 0, 101, SYN, 9, 0);
        lives("not from one that is refused", w, 1);
    }

    private static void livesOfTheOthers() {
        Wall w = Wall.fresh();
        track(w, Wall.datagramPacket(10, 1, 11, 2));
        lives("a datagram", w, 15);
        track(w, Wall.datagramPacket(10, 1, 11, 2));
        track(w, Wall.datagramPacket(11, 2, 10, 1));
        lives("a datagram that was answered", w, 40);
        track(w, control(8, 1, 10, 11));
        track(w, control(0, 1, 11, 10));
        lives("a control", w, 5);
        track(w, Wall.datagramPacket(10, 1, 11, 2));
        w.x.tick(1000);
        Wall.due("a thousand at once", w.x.told(3), 0);
    }

    // ---- ends

    private static void portsOfControls() {
        for (int id : new int[] {0, 1, 0x8000, 65535}) {
            Wall w = Wall.fresh();
            track(w, control(8, id, 10, 11));
            Wall.due("port 0 of " + id, w.x.flow(0, 2), id);
            Wall.due("port 1 of " + id, w.x.flow(0, 3), id);
            for (int type : new int[] {0, 3, 8, 11, 255}) {
                Wall.due("this way, type " + type, track(w, control(type, id, 10, 11)), 0);
                Wall.due("the other way, type " + type, track(w, control(type, id, 11, 10)), 0);
            }
            Wall.due("another one", track(w, control(0, id ^ 1, 11, 10)), NOT_BEGUN);
            Wall.due("state", w.x.flow(0, 1), 0);
        }
    }

    private static int[] quoting(int type, int[] net) {
        return Wall.link(4, Wall.four(1, 99, 98, Wall.control(type, 0, net)));
    }

    private static void relatedOnes() {
        Consumer<Wall> before = w -> track(w, Wall.datagramPacket(10, 1, 11, 2));
        int[] there = Wall.four(17, 10, 11, Wall.datagram(1, 2, Wall.b()));
        int[] back = Wall.four(17, 11, 10, Wall.datagram(2, 1, Wall.b()));
        for (int type : new int[] {3, 11}) {
            refused("type " + type + ", this way, changes nothing", before, quoting(type, there), 0);
            refused("type " + type + ", the other way, changes nothing", before, quoting(type, back), 0);
            refused("type " + type + ", another port", before, quoting(type, Wall.four(17, 10, 11, Wall.datagram(1, 3, Wall.b()))), NOT_BEGUN);
            refused("type " + type + ", REST behind the FOUR", before, quoting(type, Wall.four(99, 10, 11, Wall.b(1))), NOT_BEGUN);
            refused("type " + type + ", a finding", before, quoting(type, Wall.with(there, 3, 9)), STATE);
        }
        for (int type : new int[] {2, 4, 10, 12}) {
            refused("type " + type, before, quoting(type, there), NOT_BEGUN);
        }
        Wall w = Wall.fresh();
        track(w, Wall.link(6, Wall.six(43, 10, 11, Wall.route(17, 0, 0, Wall.datagram(1, 2, Wall.b())))));
        Wall.due("SIX and DATAGRAM right behind it", track(w, quoting(3, Wall.six(17, 10, 11, Wall.datagram(1, 2, Wall.b())))), 0);
        Wall.due("SIX and ROUTE between", track(w, quoting(3, Wall.six(43, 10, 11, Wall.route(17, 0, 0, Wall.datagram(1, 2, Wall.b()))))), NOT_BEGUN);
        w = Wall.fresh();
        track(w, control(8, 5, 10, 11));
        Wall.due("a control that is quoted", track(w, quoting(11, Wall.four(1, 11, 10, Wall.control(0, 5 << 16, Wall.b())))), 0);
        w = Wall.fresh();
        Wall.due("no flow at all", track(w, quoting(3, there)), NOT_BEGUN);
        track(w, Wall.link(4, Wall.four(1, 99, 98, Wall.control(8, 0, Wall.b()))));
        Wall.due("what quotes none is of its own flow", track(w, quoting(3, Wall.four(99, 10, 11, Wall.b(1)))), 0);
        Wall.due("and counts", w.x.flowed(0, 2), 2);
        Wall.due("what quotes one is not", track(w, quoting(3, there)), NOT_BEGUN);
        w = Wall.fresh();
        track(w, Wall.datagramPacket(10, 1, 11, 2));
        int[] far = Wall.six(43, 99, 98, Wall.route(1, 0, 0, Wall.control(3, 0, there)));
        Wall.due("behind a SIX and a ROUTE", track(w, Wall.link(6, far)), 0);
        w = Wall.fresh();
        track(w, Wall.link(6, Wall.six(17, 10, 11, Wall.datagram(1, 2, Wall.b()))));
        Wall.due("of another KIND", track(w, quoting(3, there)), NOT_BEGUN);
    }

    private static void oneEndThatIsAnother() {
        int[][] others = {Wall.datagramPacket(9, 1, 11, 2), Wall.datagramPacket(10, 9, 11, 2), Wall.datagramPacket(10, 1, 9, 2), Wall.datagramPacket(10, 1, 11, 9),
            Wall.datagramPacket(10, 2, 11, 1), Wall.datagramPacket(11, 1, 10, 2), Wall.datagramPacket(9, 2, 10, 1), Wall.datagramPacket(11, 9, 10, 1),
            Wall.datagramPacket(11, 2, 9, 1), Wall.datagramPacket(11, 2, 10, 9), sixDatagram(), Wall.link(4, Wall.four(6, 10, 11, Wall.stream(1, 2, 3, SYN, 4, Wall.b())))};
        for (int i = 0; i < others.length; i++) {
            Wall w = Wall.fresh();
            track(w, Wall.datagramPacket(10, 1, 11, 2));
            Wall.due("another one, " + i, track(w, others[i]), 1);
        }
        Wall w = Wall.fresh();
        track(w, Wall.datagramPacket(10, 1, 11, 2));
        Wall.due("this way", track(w, Wall.datagramPacket(10, 1, 11, 2)), 0);
        Wall.due("the other way", track(w, Wall.datagramPacket(11, 2, 10, 1)), 0);
    }

    // ---- numbers

    private static void flowNumbers() {
        Wall w = Wall.fresh();
        track(w, Wall.datagramPacket(10, 1, 11, 2));
        for (int what : new int[] {-1, 11, LEAST, MOST}) {
            Wall.due("flow " + what, w.x.flow(0, what), OUTSIDE);
        }
        for (int what : new int[] {-1, 6, LEAST, MOST}) {
            Wall.due("flowed " + what, w.x.flowed(0, what), NONE);
        }
        for (int f : NO_FLOWS) {
            Wall.due("flow of " + f, w.x.flow(f, 0), UNKNOWN);
            Wall.due("flow of " + f + ", outside", w.x.flow(f, -1), UNKNOWN);
            Wall.due("flowed of " + f, w.x.flowed(f, 0), NONE);
        }
        allFlows(w = Wall.fresh());
        Wall.due("the last flow", w.x.flow(23, 2), 23);
        Wall.due("the last flow's address", w.x.flowed(23, 1), 11);
    }

    private static void closeNumbers() {
        Consumer<Wall> before = w -> track(w, Wall.datagramPacket(10, 1, 11, 2));
        for (int f : NO_FLOWS) {
            Wall.refused("close " + f, before, x -> x.close(f), UNKNOWN);
        }
        Wall w = Wall.fresh();
        allFlows(w);
        Wall.due("the last", w.x.close(23), 1);
        Wall.due("it is gone", w.x.told(3), 23);
        Wall.due("the first", w.x.close(0), 1);
        Wall.due("again", w.x.close(0), UNKNOWN);
    }

    // ---- pools

    /** A pool that is refused leaves the one that was: the change shows it. */
    private static void poolRefused(String what, int k, int port, int n) {
        Wall w = Wall.fresh();
        w.x.pool(0, 200, 5000, 1);
        w.x.pool(3, 203, 6000, 1);
        Wall.due(what, w.x.pool(k, 77, port, n), OUTSIDE);
        track(w, Wall.datagramPacket(10, 1, 11, 2));
        track(w, Wall.datagramPacket(10, 2, 11, 2));
        track(w, Wall.datagramPacket(10, 3, 11, 2));
        Wall.due(what + ": pool 0 stays", w.x.change(0, 0), 5000);
        Wall.due(what + ": pool 3 stays", w.x.change(1, 3), 6000);
        Wall.due(what + ": one port", w.x.change(2, 0), ROOM);
        Wall.due(what + ": no pool 1", w.x.change(2, 1), STATE);
    }

    private static void poolNumbers() {
        for (int k : new int[] {-1, 4, LEAST, MOST}) {
            poolRefused("pool " + k, k, 1, 1);
        }
        for (int n : new int[] {0, -1, 33, LEAST, MOST}) {
            poolRefused(n + " ports", 0, 1, n);
            poolRefused(n + " ports of 3", 3, 1000, n);
        }
        for (int port : new int[] {0, -1, 65536, LEAST, MOST}) {
            poolRefused("port " + port, 0, port, 1);
        }
        poolRefused("ports 65535 and 65536", 0, 65535, 2);
        poolRefused("ports up to 65536", 3, 65505, 32);
        poolRefused("port 0 and up", 0, 0, 32);
        for (int k = 0; k < 4; k++) {
            Wall w = Wall.fresh();
            Wall.due("one port, pool " + k, w.x.pool(k, 0, 1, 1), 1);
            Wall.due("32 ports, pool " + k, w.x.pool(k, -1, 1, 32), 32);
            Wall.due("the last port", w.x.pool(k, LEAST, 65535, 1), 1);
            Wall.due("the last 32 ports", w.x.pool(k, MOST, 65504, 32), 32);
            track(w, Wall.datagramPacket(10, 1, 11, 2));
            Wall.due("its first port", w.x.change(0, k), 65504);
        }
    }

    private static void changeFlow(Wall w) {
        w.x.pool(1, 200, 5000, 2);
        track(w, Wall.datagramPacket(10, 1, 11, 2));
        Wall.due("changed", w.x.change(0, 1), 5000);
    }

    private static void poolsThatChangeAFlow() {
        Wall.refused("a flow is changed by it", EdgeFlowTest::changeFlow, x -> x.pool(1, 200, 5000, 2), STATE);
        Wall.refused("outside comes first", EdgeFlowTest::changeFlow, x -> x.pool(1, 200, 5000, 33), OUTSIDE);
        Wall w = Wall.fresh();
        changeFlow(w);
        Wall.due("it stays as it was", w.x.pool(1, 77, 9, 1), STATE);
        track(w, Wall.datagramPacket(10, 2, 11, 2));
        Wall.due("its next port", w.x.change(1, 1), 5001);
        Wall.due("another pool", w.x.pool(0, 200, 5000, 2), 2);
        w.x.close(0);
        Wall.due("one flow more is changed", w.x.pool(1, 77, 9, 1), STATE);
        w.x.tick(15);
        Wall.due("it has lived", w.x.pool(1, 77, 9, 1), 1);
        w = Wall.fresh();
        changeFlow(w);
        w.x.export();
        w.x.restore();
        Wall.due("it was read away", w.x.pool(1, 77, 9, 1), 1);
    }

    private static void changeNumbers() {
        Consumer<Wall> before = w -> {
            w.x.pool(0, 200, 5000, 1);
            track(w, Wall.datagramPacket(10, 1, 11, 2));
        };
        for (int f : NO_FLOWS) {
            Wall.refused("change " + f, before, x -> x.change(f, 0), UNKNOWN);
            Wall.refused("change " + f + ", pool 4", before, x -> x.change(f, 4), UNKNOWN);
        }
        for (int k : new int[] {-1, 4, LEAST, MOST}) {
            Wall.refused("change by " + k, before, x -> x.change(0, k), OUTSIDE);
            Wall.refused("a changed one by " + k, EdgeFlowTest::changeFlow, x -> x.change(0, k), OUTSIDE);
        }
        for (int k = 1; k < 4; k++) {
            int none = k;
            Wall.refused("there is no pool " + k, before, x -> x.change(0, none), STATE);
        }
        Wall.refused("it is changed", EdgeFlowTest::changeFlow, x -> x.change(0, 1), STATE);
        Consumer<Wall> six = w -> {
            before.accept(w);
            track(w, sixDatagram());
        };
        Wall.refused("a flow of SIX", six, x -> x.change(1, 0), STATE);
        Consumer<Wall> control = w -> {
            before.accept(w);
            track(w, control(8, 1, 10, 11));
        };
        Wall.refused("a flow of CONTROL", control, x -> x.change(1, 0), STATE);
        Wall w = Wall.fresh();
        w.x.pool(3, -1, 65535, 1);
        stream(w, 0, 1, SYN, 9, 0);
        Wall.due("not changed", w.x.flow(0, 9), NONE);
        Wall.due("a stream, the last port", w.x.change(0, 3), 65535);
        Wall.due("by which it is changed", w.x.flow(0, 9), 65535);
        Wall.due("its own port", w.x.flow(0, 2), 1000);
    }

    private static void noPortIsFree() {
        Consumer<Wall> full = w -> {
            w.x.pool(0, 200, 5000, 2);
            w.x.pool(1, 200, 5001, 1);
            for (int f = 0; f < 4; f++) {
                track(w, Wall.datagramPacket(10, f, 11, 2));
            }
            Wall.due("the first port", w.x.change(0, 0), 5000);
            Wall.due("the second port", w.x.change(1, 0), 5001);
        };
        Wall.refused("no port is free", full, x -> x.change(2, 0), ROOM);
        Wall.refused("nor in another pool of that address", full, x -> x.change(2, 1), ROOM);
        Wall.refused("state ahead of room", full, x -> x.change(0, 0), STATE);
        Wall w = Wall.fresh();
        full.accept(w);
        w.x.close(1);
        Wall.due("by the other pool", w.x.change(2, 1), 5001);
        Wall.due("which takes it from the first", w.x.change(3, 0), ROOM);
        w.x.close(0);
        Wall.due("the least again", w.x.change(3, 0), 5000);
        w = Wall.fresh();
        w.x.pool(0, 200, 5000, 32);
        allFlows(w);
        for (int f = 0; f < 24; f++) {
            Wall.due("port of " + f, w.x.change(f, 0), 5000 + f);
        }
    }

    // ---- turns

    private static void turnNumbers() {
        Consumer<Wall> plain = w -> track(w, Wall.datagramPacket(10, 1, 11, 2));
        Wall.refused("of a flow that is not changed", plain, x -> x.turn(0), STATE);
        Wall.refused("of no flow", w -> w.packet(0, Wall.datagramPacket(10, 1, 11, 2)), x -> x.turn(0), STATE);
        Wall.refused("a finding", w -> w.packet(0, 1), x -> x.turn(0), STATE);
        Consumer<Wall> other = w -> {
            changeFlow(w);
            w.packet(0, Wall.datagramPacket(11, 2, 10, 1));
        };
        Wall.refused("side 1 to side 0's own address", other, x -> x.turn(0), STATE);
        Consumer<Wall> related = w -> {
            changeFlow(w);
            w.packet(0, quoting(3, Wall.four(17, 10, 11, Wall.datagram(1, 2, Wall.b()))));
        };
        Wall.refused("one that is related", related, x -> x.turn(0), STATE);
        Consumer<Wall> piece = w -> {
            changeFlow(w);
            w.packet(0, Wall.link(4, Wall.fourPiece(17, 1, 1, 0, 10, 11, Wall.datagram(1, 2, Wall.b(9)))));
        };
        Wall.refused("a piece", piece, x -> x.turn(0), STATE);
        Consumer<Wall> closed = w -> {
            changeFlow(w);
            w.x.close(0);
        };
        Wall.refused("a flow that is gone", closed, x -> x.turn(0), STATE);
    }

    private static void turnsOfAnyPacket() {
        Wall w = Wall.fresh();
        changeFlow(w);
        w.packet(1, Wall.link(9, Wall.tag(0, 0, 4, Wall.four(17, 10, 11, Wall.datagram(1, 2, Wall.b()))))).packet(2, Wall.link(5, Wall.b()));
        w.x.read(2);
        Wall.due("whatever was read ahead of it", w.x.turn(1), 0);
        Wall.due("from", w.x.field(1, 2, 9), 200);
        Wall.due("port", w.x.field(1, 3, 0), 5000);
        w.x.read(1);
        Wall.due("of none, behind one that was turned", w.x.turn(2), STATE);
    }

    /** A host that has the changed address itself: its flow and the changed one have what side 1 sends. */
    private static void aPacketOfTwoFlows() {
        int[] own = Wall.datagramPacket(200, 5000, 11, 2);
        int[] hidden = Wall.datagramPacket(10, 1, 11, 2);
        int[] back = Wall.datagramPacket(11, 2, 200, 5000);
        for (int changed = 0; changed < 2; changed++) {
            Wall w = Wall.fresh();
            w.x.pool(0, 200, 5000, 1);
            track(w, changed == 0 ? hidden : own);
            if (changed == 0) {
                w.x.change(0, 0);
            }
            Wall.due("the second flow", track(w, changed == 0 ? own : hidden), 1);
            if (changed == 1) {
                w.x.change(1, 0);
            }
            Wall.due("the least of two flows, changed " + changed, track(w, back), 0);
            Wall.due("turn, changed " + changed, w.x.turn(0), changed == 0 ? 1 : STATE);
        }
    }

    private static void aFlowInPlaceOfAChangedOne() {
        Wall w = Wall.fresh();
        changeFlow(w);
        w.x.close(0);
        Wall.due("in its place", track(w, Wall.datagramPacket(10, 1, 11, 2)), 0);
        Wall.due("is not changed", w.x.flow(0, 9), NONE);
        Wall.due("side 1 to side 0's own address", track(w, Wall.datagramPacket(11, 2, 10, 1)), 0);
        Wall.due("no pool is used", w.x.pool(1, 200, 5000, 2), 2);
        Wall.due("it can be changed", w.x.change(0, 1), 5000);
    }

    private static void same(String what, Wall w, int[] want) {
        Wall.due(what + ": length", w.x.at(0, NONE), want.length);
        for (int i = 0; i < want.length; i++) {
            Wall.due(what + ": byte " + i, w.x.at(0, i), want[i]);
        }
    }

    private static int[] repaired(int[] packet) {
        Wall w = Wall.fresh().packet(0, packet);
        w.x.repair(0);
        return w.wholePacket(0);
    }

    private static void turnsBothWays() {
        for (int flags = 0; flags < 2; flags++) {
            boolean isStream = flags == 1;
            Wall w = Wall.fresh();
            w.x.pool(0, -1, 65535, 1);
            int[] there = isStream ? Wall.streamPacket(0, 1, SYN, 9, 3) : Wall.datagramPacket(10, 1000, 11, 80);
            track(w, there);
            w.x.change(0, 0);
            Wall.due("side 0", w.x.turn(0), 0);
            long changed = 0xffffffffL;
            int[] from = isStream ? Wall.link(4, Wall.four(6, changed, 11, Wall.stream(65535, 80, 1, SYN, 9, Wall.run(3)))) : Wall.datagramPacket(changed, 65535, 11, 80);
            same("side 0, stream " + isStream, w, repaired(from));
            int[] back = isStream ? Wall.link(4, Wall.four(6, 11, changed, Wall.stream(80, 65535, 1, SYN | ACK, 9, Wall.run(3)))) : Wall.datagramPacket(11, 80, changed, 65535);
            Wall.due("of side 1", w.packet(0, back).x.turn(0), 1);
            int[] to = isStream ? Wall.streamPacket(1, 1, SYN | ACK, 9, 3) : Wall.datagramPacket(11, 80, 10, 1000);
            same("side 1, stream " + isStream, w, repaired(to));
            Wall.due("a turn counts nothing", w.x.flowed(0, 3), 0);
            Wall.due("what was turned is of none", w.x.turn(0), STATE);
            Wall.due("turned twice", w.packet(0, from).x.turn(0), STATE);
        }
    }
}
