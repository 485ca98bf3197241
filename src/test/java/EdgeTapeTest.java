import java.util.function.Consumer;

/** Each boundary of THE TAPE and of PACKETS as bytes: promises 1 to 6, 15, 16, 37, 40, 41. */
public final class EdgeTapeTest {
    private static final int NONE = PacketWall.NONE, UNKNOWN = PacketWall.UNKNOWN, OUTSIDE = PacketWall.OUTSIDE, ROOM = PacketWall.ROOM;
    private static final int LEAST = Integer.MIN_VALUE, MOST = Integer.MAX_VALUE;
    private static final int[] NO_PACKETS = {-1, 24, LEAST, MOST};

    public static void main(String[] args) {
        feedUpToTheTapesEnd();
        feedLaysTheHighestByteFirst();
        endWithinTheTape();
        packetNumbers();
        packetOfAtMost400();
        packetInPlaceOfAnother();
        dropNumbers();
        atEachEnd();
        setEachEnd();
        digestEdges();
        tapeEdges();
        toldEdges();
        marksOfNothing();
        Wall.finish();
    }

    private static Consumer<Wall> taped(int bytes) {
        return w -> w.tape(Wall.run(bytes));
    }

    private static void feedUpToTheTapesEnd() {
        Wall w = Wall.fresh().tape(Wall.run(1580));
        Wall.due("20 bytes behind 1580", w.x.feed(1, 2, 3, 4, 5), 1600);
        Wall.due("the last one", w.x.tape(1599), 5);
        Wall.refused("20 bytes behind 1581", taped(1581), x -> x.feed(1, 2, 3, 4, 5), ROOM);
        Wall.refused("20 bytes behind 1599", taped(1599), x -> x.feed(1, 2, 3, 4, 5), ROOM);
        Wall.refused("20 bytes behind 1600", taped(1600), x -> x.feed(1, 2, 3, 4, 5), ROOM);
        Wall.due("room again", w.x.end(0) + w.x.feed(0, 0, 0, 0, 0), 20);
    }

    private static void feedLaysTheHighestByteFirst() {
        Wall w = Wall.fresh();
        w.x.feed(0x80000001, 0x7fffffff, LEAST, -1, 0x00ff00ff);
        int[] want = {128, 0, 0, 1, 127, 255, 255, 255, 128, 0, 0, 0, 255, 255, 255, 255, 0, 255, 0, 255};
        for (int i = 0; i < want.length; i++) {
            Wall.due("byte " + i + " of feed", w.x.tape(i), want[i]);
        }
    }

    private static void endWithinTheTape() {
        Wall.due("end 0 of an empty tape", Wall.fresh().x.end(0), 0);
        Wall.refused("end 1 of an empty tape", w -> { }, x -> x.end(1), OUTSIDE);
        Wall.due("all of it", Wall.fresh().tape(Wall.run(37)).x.end(37), 37);
        for (int n : new int[] {-1, 38, LEAST, MOST}) {
            Wall.refused("end " + n + " of 37", taped(37), x -> x.end(n), OUTSIDE);
        }
        Wall w = Wall.fresh().tape(Wall.run(37));
        Wall.due("all but one", w.x.end(36), 36);
        Wall.due("the last one that is kept", w.x.tape(35), 36);
        Wall.due("what was cut off", w.x.tape(36), NONE);
        Wall.due("what was cut off does not come back", w.x.end(37), OUTSIDE);
        Wall.due("all of 1600", Wall.fresh().tape(Wall.run(1600)).x.end(1600), 1600);
        Wall.refused("end 1601 of 1600", taped(1600), x -> x.end(1601), OUTSIDE);
    }

    private static void packetNumbers() {
        for (int p : new int[] {0, 23}) {
            Wall w = Wall.fresh().tape(1, 2, 3);
            Wall.due("packet " + p, w.x.packet(p), 3);
            Wall.due("it is there", w.x.at(p, NONE), 3);
            Wall.due("the tape is empty", w.x.told(7), 0);
        }
        for (int p : NO_PACKETS) {
            Wall.refused("packet " + p, taped(3), x -> x.packet(p), OUTSIDE);
        }
    }

    private static void packetOfAtMost400() {
        Wall w = Wall.fresh();
        Wall.due("a packet of no byte", w.x.packet(5), 0);
        Wall.due("it is not NOTHING", w.x.told(1), 1);
        Wall.due("how many it has", w.x.at(5, NONE), 0);
        w.tape(Wall.run(400));
        Wall.due("a packet of 400", w.x.packet(0), 400);
        Wall.due("its last byte", w.x.at(0, 399), 400 & 255);
        Wall.refused("a packet of 401", taped(401), x -> x.packet(0), OUTSIDE);
        Wall.refused("a packet of 1600", taped(1600), x -> x.packet(23), OUTSIDE);
        Wall.refused("a packet of 401 in place of another", v -> v.packet(0, 7).tape(Wall.run(401)), x -> x.packet(0), OUTSIDE);
        Wall.refused("a packet of 401 and no number", taped(401), x -> x.packet(24), OUTSIDE);
        w = Wall.fresh().tape(Wall.run(401));
        w.x.packet(0);
        w.x.end(400);
        Wall.due("the tape that stayed, one byte fewer", w.x.packet(0), 400);
    }

    private static void packetInPlaceOfAnother() {
        Wall w = Wall.fresh().packet(0, Wall.run(400));
        Wall.due("a mark", w.judge("chain a{mark 5;}"), 1);
        Wall.due("it is there", w.x.mark(0), 5);
        w.packet(0, 9);
        Wall.due("how many", w.x.at(0, NONE), 1);
        Wall.due("no byte of the one before", w.x.at(0, 1), NONE);
        Wall.due("mark 0", w.x.mark(0), 0);
        Wall.due("one packet as before", w.x.told(1), 1);
    }

    private static void dropNumbers() {
        for (int p : new int[] {0, 23}) {
            Wall w = Wall.fresh().packet(p, 1);
            Wall.due("drop " + p, w.x.drop(p), 1);
            Wall.due("it is NOTHING", w.x.at(p, NONE), UNKNOWN);
            Wall.due("drop " + p + " again", w.x.drop(p), 0);
            Wall.due("none is there", w.x.told(1), 0);
        }
        Wall.due("drop of a packet without a byte", Wall.fresh().packet(3).x.drop(3), 1);
        Wall.refused("drop of NOTHING", w -> w.packet(1, 1), x -> x.drop(0), 0);
        for (int p : NO_PACKETS) {
            Wall.refused("drop " + p, w -> w.packet(0, 1).packet(23, 2), x -> x.drop(p), OUTSIDE);
        }
    }

    private static void atEachEnd() {
        Wall w = Wall.fresh().packet(0, 0, 128, 255).packet(1).packet(23, Wall.run(400));
        int[] asked = {NONE, 0, 1, 2, 3, -2, LEAST, MOST};
        int[] want = {3, 0, 128, 255, NONE, NONE, NONE, NONE};
        for (int i = 0; i < asked.length; i++) {
            Wall.due("at " + asked[i], w.x.at(0, asked[i]), want[i]);
        }
        Wall.due("the first of no byte", w.x.at(1, 0), NONE);
        Wall.due("how many, of no byte", w.x.at(1, NONE), 0);
        Wall.due("the last of 400", w.x.at(23, 399), 400 & 255);
        Wall.due("behind the last of 400", w.x.at(23, 400), NONE);
        for (int p : new int[] {2, -1, 24, LEAST, MOST}) {
            Wall.due("at of " + p, w.x.at(p, 0), UNKNOWN);
            Wall.due("at of " + p + ", NONE", w.x.at(p, NONE), UNKNOWN);
            Wall.due("at of " + p + ", beyond", w.x.at(p, MOST), UNKNOWN);
        }
    }

    private static void setEachEnd() {
        Wall w = Wall.fresh().packet(0, 7, 8, 9).packet(1).packet(23, Wall.run(400));
        Wall.due("the first", w.x.set(0, 0, 255), 7);
        Wall.due("the last", w.x.set(0, 2, 0), 9);
        Wall.due("what the first is", w.x.at(0, 0), 255);
        Wall.due("what the last is", w.x.at(0, 2), 0);
        Wall.due("the last of 400", w.x.set(23, 399, 1), 400 & 255);
        Consumer<Wall> before = v -> v.packet(0, 7, 8, 9).packet(1);
        for (int i : new int[] {NONE, 3, -2, LEAST, MOST}) {
            Wall.refused("set byte " + i, before, x -> x.set(0, i, 1), OUTSIDE);
        }
        for (int v : new int[] {-1, 256, LEAST, MOST}) {
            Wall.refused("set to " + v, before, x -> x.set(0, 0, v), OUTSIDE);
        }
        Wall.refused("set of no byte", before, x -> x.set(1, 0, 0), OUTSIDE);
        for (int p : new int[] {2, -1, 24, LEAST, MOST}) {
            Wall.refused("set of " + p, before, x -> x.set(p, 0, 1), UNKNOWN);
            Wall.refused("set of " + p + ", outside too", before, x -> x.set(p, -1, 256), UNKNOWN);
        }
    }

    private static void digestEdges() {
        Wall w = Wall.fresh().packet(0).packet(1, 0).packet(2, 255).packet(23, Wall.run(400));
        long none = -3750763034362895579L;
        long times = 1099511628211L;
        long all = none;
        for (int b : Wall.run(400)) {
            all = (all ^ b) * times;
        }
        Wall.due("of no byte", w.x.digest(0), none);
        Wall.due("of 0", w.x.digest(1), none * times);
        Wall.due("of 255, without sign", w.x.digest(2), (none ^ 255) * times);
        Wall.due("of 400", w.x.digest(23), all);
        for (int p : new int[] {3, -1, 24, LEAST, MOST}) {
            Wall.due("of " + p, w.x.digest(p), 0);
        }
    }

    private static void tapeEdges() {
        Wall w = Wall.fresh();
        Wall.due("the first of none", w.x.tape(0), NONE);
        w.tape(Wall.run(1600));
        Wall.due("the first", w.x.tape(0), 1);
        Wall.due("the last", w.x.tape(1599), 1600 & 255);
        for (int i : new int[] {-1, 1600, LEAST, MOST}) {
            Wall.due("tape " + i, w.x.tape(i), NONE);
        }
    }

    private static void toldEdges() {
        for (int what : new int[] {-1, 9, LEAST, MOST}) {
            Wall.due("told " + what, Wall.fresh().x.told(what), OUTSIDE);
        }
        Wall w = Wall.fresh();
        for (int p = 0; p < 24; p++) {
            Wall.due("packets", w.x.told(1), p);
            w.packet(p, 1);
        }
        Wall.due("all packets", w.x.told(1), 24);
        w.tape(Wall.run(1600));
        Wall.due("all of the tape", w.x.told(7), 1600);
    }

    private static void marksOfNothing() {
        for (int p : new int[] {0, -1, 24, LEAST, MOST}) {
            Wall.due("mark of " + p, Wall.fresh().x.mark(p), 0);
        }
        Wall w = Wall.fresh().packet(0);
        w.judge("chain a{mark 0-1;}");
        Wall.due("which it may be", w.x.mark(0), -1);
        w.x.drop(0);
        Wall.due("a mark of what was dropped", w.x.mark(0), 0);
    }
}
