/** Promises 17 to 19: pieces, what was gathered, time. */
public final class PieceTest {
    private static final int NONE = PacketWall.NONE, UNKNOWN = PacketWall.UNKNOWN, OUTSIDE = PacketWall.OUTSIDE;
    private static final int STATE = PacketWall.STATE, ROOM = PacketWall.ROOM;

    public static void main(String[] args) {
        refusedOnes();
        fourTogether();
        partTogether();
        overlaps();
        rowsBeforeTheWhole();
        tellingTheWhole();
        names();
        roomForGatherings();
        roomForPackets();
        lives();
        ticks();
        Wall.finish();
    }

    private static int[] piece(int number, int more, int offset, int[] data) {
        return Wall.link(4, Wall.fourPiece(99, number, more, offset, 10, 11, data));
    }

    private static int[] sixPiece(int more, int offset, int[] data) {
        return Wall.link(6, Wall.six(44, 10, 11, Wall.part(99, offset, more, 5, data)));
    }

    private static int gather(Wall w, int[] packet) {
        return w.packet(0, packet).x.gather(0);
    }

    private static void gathered(String what, Wall w, int fresh, int over, int beyond, int row, int whole) {
        int[] want = {fresh, over, beyond, row, whole};
        for (int i = 0; i < 5; i++) {
            Wall.due(what + ": gathered " + i, w.x.gathered(i), want[i]);
        }
    }

    private static void refusedOnes() {
        Wall w = Wall.fresh();
        Wall.due("gathered ahead of any", w.x.gathered(4), NONE);
        Wall.due("gathered -1", w.x.gathered(-1), OUTSIDE);
        Wall.due("gathered 5", w.x.gathered(5), OUTSIDE);
        Wall.due("nothing", w.x.gather(0), UNKNOWN);
        Wall.due("packet 24", w.x.gather(24), UNKNOWN);
        Wall.due("a finding", gather(w, Wall.b(1)), STATE);
        Wall.due("no piece", gather(w, Wall.link(4, Wall.four(99, 1, 2, Wall.b(1)))), STATE);
        Wall.due("no net", gather(w, Wall.link(5, Wall.b(1))), STATE);
        Wall.due("an inner FOUR's piece", gather(w, Wall.link(4, Wall.four(4, 1, 2, Wall.fourPiece(99, 1, 1, 0, 1, 2, Wall.run(8))))), STATE);
        Wall.due("no data", gather(w, piece(1, 1, 1, Wall.b())), STATE);
        Wall.due("7 with more", gather(w, piece(1, 1, 1, Wall.run(7))), STATE);
        Wall.due("7 with more of PART", gather(w, sixPiece(1, 1, Wall.run(7))), STATE);
        Wall.due("361 told", gather(w, piece(1, 0, 45, Wall.run(1))), STATE);
        Wall.due("none was begun", w.x.told(2), 0);
        Wall.due("none was gathered", w.x.gathered(0), NONE);
        Wall.due("360 told", gather(w, piece(1, 0, 44, Wall.run(8))), NONE);
        Wall.due("361 told later", gather(w, piece(1, 0, 45, Wall.run(1))), NONE);
        gathered("beyond the whole", w, 0, 0, 1, 360, 360);
    }

    private static void fourTogether() {
        Wall w = Wall.fresh();
        int[] first = Wall.link(9, Wall.tag(1, 2, 4, Wall.with(Wall.with(Wall.join(Wall.fourPiece(99, 3, 3, 0, 10, 11, Wall.join(Wall.b(8, 8, 8, 8), Wall.run(8)))), 0, 0x46), 10, 77)));
        Wall.due("the last first", gather(w, piece(3, 0, 1, Wall.b(50, 51, 52))), NONE);
        gathered("the last", w, 3, 0, 0, 11, 11);
        Wall.due("it is whole", gather(w, first), 1);
        gathered("the first", w, 8, 0, 0, 11, 11);
        int[] four = Wall.join(Wall.b(0x46, 3), Wall.two(35), Wall.two(3), Wall.two(0), Wall.b(64, 99), Wall.two(0), Wall.number(10, 4), Wall.number(11, 4), Wall.b(8, 8, 8, 8));
        int[] head = Wall.join(four, Wall.run(8), Wall.b(50, 51, 52));
        int sum = Wall.sumOf(four);
        int[] want = Wall.link(9, Wall.tag(1, 2, 4, Wall.with(Wall.with(head, 10, sum >> 8), 11, sum & 255)));
        Wall.due("its length", w.x.at(1, NONE), want.length);
        for (int i = 0; i < want.length; i++) {
            Wall.due("its byte " + i, w.x.at(1, i), want[i]);
        }
        Wall.due("it is right", w.x.read(1), 4);
        Wall.due("its mark", w.x.mark(1), 0);
        Wall.due("the gathering is gone", w.x.told(2), 0);
    }

    private static void partTogether() {
        Wall w = Wall.fresh();
        int[] inner = Wall.datagram(53, 54, Wall.run(8));
        int[] first = Wall.link(6, Wall.six(0, 10, 11, Wall.hops(43, 1, Wall.route(44, 0, 3, Wall.part(17, 0, 1, 5, Wall.with(inner, 5, 16))))));
        int[] last = Wall.link(6, Wall.six(44, 10, 11, Wall.part(17, 2, 0, 5, Wall.b(1, 2))));
        Wall.due("the first", gather(w, first), NONE);
        Wall.due("the last", gather(w, last), 1);
        int[] want = Wall.link(6, Wall.six(0, 10, 11, Wall.hops(43, 1, Wall.route(17, 0, 3, Wall.join(Wall.with(inner, 5, 16), Wall.b(1, 2))))));
        Wall.due("its length", w.x.at(1, NONE), want.length);
        for (int i = 0; i < want.length; i++) {
            Wall.due("its byte " + i, w.x.at(1, i), want[i]);
        }
        Wall.due("PART right behind SIX, whole by itself", gather(w, sixPiece(0, 0, Wall.b(7))), 2);
        Wall.due("SIX's next", w.x.field(2, 1, 2), 99);
        Wall.due("SIX's length", w.x.field(2, 1, 1), 1);
    }

    private static void overlaps() {
        Wall w = Wall.fresh();
        gather(w, piece(1, 1, 1, Wall.run(16)));
        Wall.due("over it", gather(w, piece(1, 1, 0, new int[24])), NONE);
        gathered("over it", w, 8, 16, 0, 64, NONE);
        Wall.due("the end", gather(w, piece(1, 0, 2, new int[9])), 1);
        gathered("the end", w, 1, 8, 0, 25, 25);
        for (int i = 0; i < 25; i++) {
            Wall.due("what came first stays, byte " + i, w.x.at(1, 24 + i), i < 8 || i == 24 ? 0 : i - 7);
        }
    }

    private static void rowsBeforeTheWhole() {
        int[] ends = {64, 72, 128, 136, 256, 264, 360, 368};
        int[] rows = {64, 128, 128, 256, 256, 360, 360, 360};
        for (int i = 0; i < ends.length; i++) {
            Wall w = Wall.fresh();
            gather(w, piece(1, 1, ends[i] / 8 - 1, Wall.run(8)));
            gathered("end " + ends[i], w, ends[i] > 360 ? 0 : 8, 0, ends[i] > 360 ? 8 : 0, rows[i], NONE);
            gather(w, piece(1, 1, 0, Wall.run(8)));
            Wall.due("it stays so long", w.x.gathered(3), rows[i]);
        }
        Wall w = Wall.fresh();
        gather(w, piece(1, 1, 44, Wall.run(16)));
        gathered("half of it beyond", w, 8, 0, 8, 360, NONE);
    }

    private static void tellingTheWhole() {
        Wall w = Wall.fresh();
        gather(w, piece(1, 1, 2, Wall.run(16)));
        gather(w, piece(1, 0, 1, Wall.run(3)));
        gathered("told shorter than what came", w, 3, 0, 0, 11, 11);
        gather(w, piece(1, 0, 2, Wall.run(9)));
        gathered("a later end", w, 0, 0, 9, 11, 11);
        Wall.due("what lay beyond is lost", gather(w, piece(1, 1, 0, Wall.run(8))), 1);
        Wall.due("its length", w.x.at(1, NONE), 4 + 20 + 11);
        w = Wall.fresh();
        gather(w, piece(1, 1, 0, Wall.run(8)));
        gather(w, Wall.link(4, Wall.with(Wall.fourPiece(99, 1, 1, 0, 10, 11, Wall.run(8)), 1, 200)));
        Wall.due("whole", gather(w, piece(1, 0, 1, Wall.b(1))), 1);
        Wall.due("headers of the first with offset 0", w.x.at(1, 5), 3);
    }

    private static void names() {
        Wall w = Wall.fresh();
        gather(w, Wall.link(4, Wall.fourPiece(99, 5, 1, 0, 10, 11, Wall.run(8))));
        gather(w, Wall.link(4, Wall.fourPiece(98, 5, 1, 0, 10, 11, Wall.run(8))));
        gather(w, Wall.link(4, Wall.fourPiece(99, 6, 1, 0, 10, 11, Wall.run(8))));
        gather(w, Wall.link(4, Wall.fourPiece(99, 5, 1, 0, 11, 10, Wall.run(8))));
        gather(w, Wall.link(4, Wall.fourPiece(99, 5, 1, 0, 10, 12, Wall.run(8))));
        gather(w, sixPiece(1, 0, Wall.run(8)));
        Wall.due("six names", w.x.told(2), 6);
        gather(w, Wall.link(9, Wall.tag(0, 0, 6, Wall.six(43, 10, 11, Wall.route(44, 0, 0, Wall.part(99, 1, 1, 5, Wall.run(8)))))));
        Wall.due("one that is known", w.x.told(2), 6);
        gather(w, Wall.link(6, Wall.six(44, 10, 11, Wall.part(99, 1, 1, 6, Wall.run(8)))));
        Wall.due("another number of PART", w.x.told(2), 7);
        gather(w, Wall.link(6, Wall.six(44, 10, 11, Wall.part(98, 1, 1, 6, Wall.run(8)))));
        Wall.due("another next of PART", w.x.told(2), 8);
    }

    private static void roomForGatherings() {
        Wall w = Wall.fresh();
        for (int number = 0; number < 8; number++) {
            Wall.due("gathering " + number, gather(w, piece(number, 1, 0, Wall.run(8 * number + 8))), NONE);
        }
        Wall.due("a ninth", gather(w, piece(8, 1, 0, Wall.run(8))), ROOM);
        Wall.due("a ninth that can't be", gather(w, piece(8, 1, 0, Wall.run(7))), STATE);
        Wall.due("of the latest", w.x.gathered(0), 64);
        Wall.due("eight", w.x.told(2), 8);
        Wall.due("one of the eight", gather(w, piece(7, 0, 8, Wall.run(1))), 1);
        Wall.due("a ninth then", gather(w, piece(8, 1, 0, Wall.run(8))), NONE);
    }

    private static void roomForPackets() {
        Wall w = Wall.fresh();
        for (int p = 1; p < 24; p++) {
            w.packet(p, 1);
        }
        gather(w, piece(1, 1, 0, Wall.run(8)));
        Wall.due("no packet is free", gather(w, piece(1, 0, 1, Wall.run(2))), ROOM);
        gathered("it is gathered", w, 2, 0, 0, 10, 10);
        Wall.due("the gathering stays", w.x.told(2), 1);
        w.x.drop(20);
        w.x.drop(9);
        Wall.due("looked at anew", gather(w, piece(1, 0, 1, Wall.run(2))), 9);
        gather(w, piece(2, 1, 0, Wall.run(8)));
        w.packet(20, 1);
        w.x.drop(23);
        Wall.due("the last one is free", gather(w, piece(2, 0, 1, Wall.run(2))), 23);
        w = Wall.fresh();
        int[] wide = Wall.join(Wall.b(0x4f, 3), Wall.two(68), Wall.two(1), Wall.two(1 << 13), Wall.b(64, 99), Wall.two(0), Wall.number(10, 4), Wall.number(11, 4), new int[40], Wall.run(8));
        gather(w, Wall.link(4, wide));
        gather(w, piece(1, 1, 1, Wall.run(320)));
        Wall.due("401 bytes", gather(w, piece(1, 0, 41, Wall.run(9))), ROOM);
        Wall.due("it stays", w.x.told(2), 1);
        w = Wall.fresh();
        gather(w, Wall.link(4, wide));
        gather(w, piece(1, 1, 1, Wall.run(320)));
        Wall.due("400 bytes", gather(w, piece(1, 0, 41, Wall.run(8))), 1);
        Wall.due("its length", w.x.at(1, NONE), 400);
    }

    private static void lives() {
        Wall w = Wall.fresh();
        gather(w, piece(1, 1, 0, Wall.run(8)));
        w.x.tick(29);
        Wall.due("29 ticks", w.x.told(2), 1);
        gather(w, piece(1, 1, 0, Wall.run(16)));
        gathered("still there", w, 8, 8, 0, 64, NONE);
        w.x.tick(1);
        Wall.due("30 ticks, whatever came", w.x.told(2), 0);
        Wall.due("it begins anew", gather(w, piece(1, 0, 1, Wall.run(8))), NONE);
        gathered("anew", w, 8, 0, 0, 16, 16);
    }

    private static void ticks() {
        Wall w = Wall.fresh();
        Wall.due("tick 0", w.x.tick(0), OUTSIDE);
        Wall.due("tick -1", w.x.tick(-1), OUTSIDE);
        Wall.due("tick 1001", w.x.tick(1001), OUTSIDE);
        Wall.due("tick 1", w.x.tick(1), 1);
        Wall.due("tick 1000", w.x.tick(1000), 1001);
        Wall.due("time", w.x.told(0), 1001);
    }
}
