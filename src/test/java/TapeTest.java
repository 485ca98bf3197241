/** Promises 1 to 6, 15, 16, 40, 41: a new object, the tape, packets and their bytes. */
public final class TapeTest {
    private static final int NONE = PacketWall.NONE, UNKNOWN = PacketWall.UNKNOWN, OUTSIDE = PacketWall.OUTSIDE, ROOM = PacketWall.ROOM;

    public static void main(String[] args) {
        newObject();
        feedAndEnd();
        packetAndDrop();
        bytesOfPackets();
        digests();
        toldNumbers();
        Wall.finish();
    }

    private static void newObject() {
        PacketWall x = new PacketWall();
        for (int what = 0; what <= 8; what++) {
            Wall.due("told(" + what + ") of a new object", x.told(what), 0);
        }
        for (int p = 0; p < 24; p++) {
            Wall.due("a new packet", x.at(p, NONE), UNKNOWN);
        }
        for (int f = 0; f < 24; f++) {
            Wall.due("a new flow", x.flow(f, 0), UNKNOWN);
        }
        for (int k = 0; k < 8; k++) {
            Wall.due("a new counter", x.counter(k), 0);
            Wall.due("a new row", x.rowAt(k, NONE), NONE);
        }
        Wall.due("the finding ahead of any", x.finding(0), 0);
        Wall.due("its headers", x.finding(1), NONE);
        Wall.due("its place", x.finding(2), NONE);
        Wall.due("its kind", x.finding(3), NONE);
        Wall.due("wrong ahead of any", x.wrong(), NONE);
    }

    private static void feedAndEnd() {
        PacketWall x = new PacketWall();
        Wall.due("feed", x.feed(0x01020304, -1, 0, 0x7f80, 5), 20);
        int[] want = {1, 2, 3, 4, 255, 255, 255, 255, 0, 0, 0, 0, 0, 0, 127, 128, 0, 0, 0, 5};
        for (int i = 0; i < 20; i++) {
            Wall.due("tape " + i, x.tape(i), want[i]);
        }
        Wall.due("tape behind its end", x.tape(20), NONE);
        Wall.due("tape below 0", x.tape(-1), NONE);
        Wall.due("end above", x.end(21), OUTSIDE);
        Wall.due("end where it ends", x.end(20), 20);
        Wall.due("end below 0", x.end(-1), OUTSIDE);
        Wall.due("end", x.end(3), 3);
        Wall.due("tape cut off", x.tape(3), NONE);
        Wall.due("feed behind it", x.feed(0x09000000, 0, 0, 0, 0), 23);
        Wall.due("tape fed behind", x.tape(3), 9);
        Wall.due("end at 0", x.end(0), 0);
        for (int n = 1; n <= 80; n++) {
            Wall.due("feed " + n, x.feed(n, 0, 0, 0, 0), 20 * n);
        }
        Wall.due("feed without room", x.feed(0, 0, 0, 0, 0), ROOM);
        Wall.due("the tape then", x.told(7), 1600);
        Wall.due("end at 1581", x.end(1581), 1581);
        Wall.due("feed of 19 too few", x.feed(0, 0, 0, 0, 0), ROOM);
        Wall.due("end at 1580", x.end(1580), 1580);
        Wall.due("feed that just fits", x.feed(0, 0, 0, 0, 0), 1600);
    }

    private static void packetAndDrop() {
        Wall w = Wall.fresh();
        Wall.due("packet of nothing", w.x.packet(0), 0);
        Wall.due("its length", w.x.at(0, NONE), 0);
        w.tape(Wall.run(400));
        Wall.due("packet 24", w.x.packet(24), OUTSIDE);
        Wall.due("packet -1", w.x.packet(-1), OUTSIDE);
        Wall.due("the tape stays", w.x.told(7), 400);
        Wall.due("packet 23", w.x.packet(23), 400);
        Wall.due("the tape is empty", w.x.told(7), 0);
        w.tape(Wall.run(401));
        Wall.due("packet of 401", w.x.packet(1), OUTSIDE);
        Wall.due("the tape of 401 stays", w.x.told(7), 401);
        Wall.due("packet 1 is nothing still", w.x.at(1, NONE), UNKNOWN);
        Wall.due("told packets", w.x.told(1), 2);
        Wall.due("drop", w.x.drop(23), 1);
        Wall.due("drop again", w.x.drop(23), 0);
        Wall.due("drop 24", w.x.drop(24), OUTSIDE);
        Wall.due("drop -1", w.x.drop(-1), OUTSIDE);
        Wall.due("told packets then", w.x.told(1), 1);
    }

    private static void bytesOfPackets() {
        Wall w = Wall.fresh().packet(2, 7, 255, 0);
        Wall.due("at 0", w.x.at(2, 0), 7);
        Wall.due("at 1", w.x.at(2, 1), 255);
        Wall.due("at 3", w.x.at(2, 3), NONE);
        Wall.due("at -2", w.x.at(2, -2), NONE);
        Wall.due("at NONE", w.x.at(2, NONE), 3);
        Wall.due("at of nothing", w.x.at(3, 0), UNKNOWN);
        Wall.due("at of packet 24", w.x.at(24, 0), UNKNOWN);
        Wall.due("set", w.x.set(2, 1, 9), 255);
        Wall.due("set 0", w.x.set(2, 1, 0), 9);
        Wall.due("set again", w.x.set(2, 1, 255), 0);
        Wall.due("set 256", w.x.set(2, 1, 256), OUTSIDE);
        Wall.due("set -1", w.x.set(2, 1, -1), OUTSIDE);
        Wall.due("set behind", w.x.set(2, 3, 0), OUTSIDE);
        Wall.due("set below", w.x.set(2, -1, 0), OUTSIDE);
        Wall.due("set of nothing, outside", w.x.set(3, -1, 0), UNKNOWN);
        Wall.due("what stays", w.x.at(2, 1), 255);
        w.packet(2, 1);
        Wall.due("a shorter one in its place", w.x.at(2, 1), NONE);
    }

    private static void digests() {
        Wall w = Wall.fresh().packet(0).packet(1, 97).packet(2, 255, 0);
        Wall.due("digest of no byte", w.x.digest(0), -3750763034362895579L);
        Wall.due("digest of one", w.x.digest(1), (-3750763034362895579L ^ 97) * 1099511628211L);
        Wall.due("digest of two", w.x.digest(2), ((-3750763034362895579L ^ 255) * 1099511628211L) * 1099511628211L);
        Wall.due("digest of nothing", w.x.digest(3), 0);
        Wall.due("digest of 24", w.x.digest(24), 0);
    }

    private static void toldNumbers() {
        Wall w = Wall.fresh();
        Wall.due("told -1", w.x.told(-1), OUTSIDE);
        Wall.due("told 9", w.x.told(9), OUTSIDE);
        w.x.tick(7);
        w.packet(0, Wall.datagramPacket(10, 1, 11, 2));
        w.x.track(0);
        w.packet(1, Wall.link(4, Wall.fourPiece(99, 1, 1, 0, 1, 2, Wall.run(8))));
        w.x.gather(1);
        w.judge("chain a { log 1; log 2; try b; } chain b { log 3; fail 1; }");
        w.tape(1, 2, 3);
        int[] want = {7, 2, 1, 1, 2, 9, 1, 3, 2};
        for (int what = 0; what <= 8; what++) {
            Wall.due("told " + what, w.x.told(what), want[what]);
        }
    }
}
