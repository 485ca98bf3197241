import java.util.Arrays;
import java.util.function.Consumer;

/** Each boundary of PIECES, GATHERINGS and ticks: promises 17 to 19. */
public final class EdgePieceTest {
    private static final int NONE = PacketWall.NONE, UNKNOWN = PacketWall.UNKNOWN, OUTSIDE = PacketWall.OUTSIDE;
    private static final int STATE = PacketWall.STATE, ROOM = PacketWall.ROOM;
    private static final int LEAST = Integer.MIN_VALUE, MOST = Integer.MAX_VALUE;

    public static void main(String[] args) {
        gatherNumbers();
        gatheredNumbers();
        whatIsAPiece();
        dataThatAreNone();
        multiplesOfEight();
        theFirstWithoutMore();
        laterOnesWithoutMore();
        rowsOf64To360();
        rowsOfMorePieces();
        bytesThatAreThere();
        bytesBeyond360();
        bytesBeyondTheWhole();
        bytesThatAreLost();
        allBytesButNoWhole();
        eachOfTheNames();
        aGatheringInPlaceOfAnother();
        headersOfTheFirstWithOffset0();
        headersThatAreMissing();
        whatAPacketIsThen();
        sumOfAPacketThen();
        whatPartIsThen();
        aNinthGathering();
        noPacketIsFree();
        theLeastFreePacket();
        moreThan400();
        moreThan400OfPart();
        thirtyTicks();
        ticks();
        Wall.finish();
    }

    private static int[] piece(int number, int more, int offset, int[] data) {
        return Wall.link(4, Wall.fourPiece(99, number, more, offset, 10, 11, data));
    }

    private static int[] part(int more, int offset, int[] data) {
        return Wall.link(6, Wall.six(44, 10, 11, Wall.part(99, offset, more, 5, data)));
    }

    private static int gather(Wall w, int[] packet) {
        return w.packet(0, packet).x.gather(0);
    }

    private static void gathered(String what, Wall w, int... want) {
        for (int i = 0; i < 5; i++) {
            Wall.due(what + ": gathered " + i, w.x.gathered(i), want[i]);
        }
    }

    /** Refused, on a new wall and where another piece was gathered ahead of it. */
    private static void refused(String what, int[] packet, int answer) {
        Wall.refused(what, w -> w.packet(0, packet), x -> x.gather(0), answer);
        Consumer<Wall> before = w -> {
            gather(w, piece(77, 1, 0, Wall.run(16)));
            w.packet(0, packet);
        };
        Wall.refused(what + ", behind another", before, x -> x.gather(0), answer);
    }

    private static void gatherNumbers() {
        for (int p : new int[] {0, 23}) {
            Wall w = Wall.fresh().packet(p, piece(1, 1, 0, Wall.run(8)));
            Wall.due("gather " + p, w.x.gather(p), NONE);
        }
        for (int p : new int[] {1, -1, 24, LEAST, MOST}) {
            Wall.refused("gather " + p, w -> w.packet(0, piece(1, 1, 0, Wall.run(8))), x -> x.gather(p), UNKNOWN);
        }
    }

    private static void gatheredNumbers() {
        Wall w = Wall.fresh();
        gathered("ahead of any", w, NONE, NONE, NONE, NONE, NONE);
        for (int what : new int[] {-1, 5, LEAST, MOST}) {
            Wall.due("gathered " + what, w.x.gathered(what), OUTSIDE);
        }
        gather(w, piece(1, 1, 0, Wall.run(7)));
        gathered("behind one that was refused", w, NONE, NONE, NONE, NONE, NONE);
        gather(w, piece(1, 1, 0, Wall.run(8)));
        gathered("behind one", w, 8, 0, 0, 64, NONE);
        gather(w, piece(1, 1, 0, Wall.run(7)));
        gathered("behind another that was refused", w, 8, 0, 0, 64, NONE);
    }

    private static void whatIsAPiece() {
        for (int flags = 0; flags < 8; flags++) {
            boolean more = flags % 2 == 1;
            int[] packet = piece(1, flags, 0, Wall.run(8));
            if (more) {
                Wall.due("flags " + flags, gather(Wall.fresh(), packet), NONE);
            } else {
                refused("flags " + flags, packet, STATE);
            }
            Wall w = Wall.fresh();
            Wall.due("offset 1, flags " + flags, gather(w, piece(1, flags, 1, Wall.run(8))), NONE);
            gathered("offset 1, flags " + flags, w, 8, 0, 0, more ? 64 : 16, more ? NONE : 16);
        }
        refused("a finding", Arrays.copyOf(piece(1, 1, 0, Wall.run(8)), 31), STATE);
        refused("a finding behind the piece", Wall.link(4, Wall.fourPiece(17, 1, 1, 0, 10, 11, Wall.run(8))), STATE);
        refused("a finding behind PART", Wall.link(6, Wall.six(44, 10, 11, Wall.part(6, 0, 1, 5, Wall.run(8)))), STATE);
        refused("no byte", Wall.b(), STATE);
        refused("LINK alone", Wall.link(5, Wall.b()), STATE);
        refused("a piece in another FOUR", Wall.link(4, Wall.four(4, 1, 2, Wall.fourPiece(99, 1, 1, 0, 1, 2, Wall.run(8)))), STATE);
        refused("a PART in a FOUR", Wall.link(4, Wall.four(41, 1, 2, Wall.six(44, 1, 2, Wall.part(99, 0, 1, 1, Wall.run(8))))), STATE);
        refused("a PART in a SIX in a SIX", Wall.link(6, Wall.six(41, 1, 2, Wall.six(44, 1, 2, Wall.part(99, 0, 1, 1, Wall.run(8))))), STATE);
        refused("a SIX without PART", Wall.link(6, Wall.six(99, 1, 2, Wall.run(8))), STATE);
        Wall.due("PART right behind SIX", gather(Wall.fresh(), part(1, 0, Wall.run(8))), NONE);
        int[] between = Wall.hops(43, 0, Wall.route(43, 0, 0, Wall.route(44, 0, 0, Wall.part(99, 0, 1, 1, Wall.run(8)))));
        Wall.due("HOPS, ROUTE, ROUTE between", gather(Wall.fresh(), Wall.link(6, Wall.six(0, 1, 2, between))), NONE);
        Wall.due("PART with offset 0, without more", gather(Wall.fresh(), part(0, 0, Wall.run(3))), 1);
        Wall.due("PART whose bits beside more are set", gather(Wall.fresh(), part(6, 0, Wall.run(3))), 1);
    }

    private static void dataThatAreNone() {
        refused("no data, more", piece(1, 1, 0, Wall.b()), STATE);
        refused("no data, the last", piece(1, 0, 1, Wall.b()), STATE);
        refused("no data of PART, more", part(1, 0, Wall.b()), STATE);
        refused("no data of PART, the last", part(0, 0, Wall.b()), STATE);
        refused("no data behind FOUR's words", Wall.link(4, Wall.with(Wall.fourPiece(99, 1, 1, 0, 10, 11, Wall.run(4)), 0, 0x46)), STATE);
        Wall w = Wall.fresh();
        Wall.due("one byte, the last", gather(w, piece(1, 0, 1, Wall.run(1))), NONE);
        gathered("one byte", w, 1, 0, 0, 9, 9);
        Wall.due("one byte of PART, the last", gather(w, part(0, 1, Wall.run(1))), NONE);
    }

    private static void multiplesOfEight() {
        for (int n = 1; n <= 17; n++) {
            if (n % 8 == 0) {
                Wall.due(n + " with more", gather(Wall.fresh(), piece(1, 1, 0, Wall.run(n))), NONE);
                Wall.due(n + " of PART with more", gather(Wall.fresh(), part(1, 0, Wall.run(n))), NONE);
            } else {
                refused(n + " with more", piece(1, 1, 0, Wall.run(n)), STATE);
                refused(n + " of PART with more", part(1, 0, Wall.run(n)), STATE);
            }
            Wall w = Wall.fresh();
            Wall.due(n + " without more", gather(w, piece(1, 0, 1, Wall.run(n))), NONE);
            Wall.due(n + " without more: the whole", w.x.gathered(4), 8 + n);
        }
    }

    private static void theFirstWithoutMore() {
        Wall w = Wall.fresh();
        Wall.due("offset and data 360", gather(w, piece(1, 0, 44, Wall.run(8))), NONE);
        gathered("offset and data 360", w, 8, 0, 0, 360, 360);
        refused("offset and data 361", piece(1, 0, 44, Wall.run(9)), STATE);
        refused("offset 360 and one", piece(1, 0, 45, Wall.run(1)), STATE);
        refused("the greatest offset", piece(1, 0, 8191, Wall.run(1)), STATE);
        refused("361 of PART", part(0, 44, Wall.run(9)), STATE);
        Wall.due("360 of PART", gather(Wall.fresh(), part(0, 44, Wall.run(8))), NONE);
        Wall.due("all at once, 360 of PART", gather(Wall.fresh(), part(0, 0, Wall.run(360))), 1);
        refused("all at once, 361 of PART", part(0, 0, Wall.run(361)), STATE);
        Consumer<Wall> begun = v -> {
            gather(v, piece(1, 1, 0, Wall.run(8)));
            v.packet(0, piece(1, 0, 44, Wall.run(9)));
        };
        Wall.refused("361 as the first of a gathering that is there", begun, x -> x.gather(0), STATE);
        Wall.due("with more it is no such", gather(Wall.fresh(), piece(1, 1, 45, Wall.run(8))), NONE);
    }

    private static void laterOnesWithoutMore() {
        Wall w = Wall.fresh();
        gather(w, piece(1, 0, 2, Wall.run(4)));
        Wall.due("361 later", gather(w, piece(1, 0, 45, Wall.run(1))), NONE);
        gathered("361 later", w, 0, 0, 1, 20, 20);
        Wall.due("the greatest offset later", gather(w, piece(1, 0, 8191, Wall.run(5))), NONE);
        gathered("the greatest offset later", w, 0, 0, 5, 20, 20);
        Wall.due("a shorter one later", gather(w, piece(1, 0, 1, Wall.run(4))), NONE);
        gathered("a shorter one later", w, 4, 0, 0, 20, 20);
        Wall.due("a longer one later", gather(w, piece(1, 0, 1, Wall.run(14))), NONE);
        gathered("a longer one later", w, 4, 8, 2, 20, 20);
    }

    private static void rowsOf64To360() {
        int[] ends = {8, 56, 64, 72, 120, 128, 136, 248, 256, 264, 352, 360, 368, 65528};
        int[] rows = {64, 64, 64, 128, 128, 128, 256, 256, 256, 360, 360, 360, 360, 360};
        for (int i = 0; i < ends.length; i++) {
            Wall w = Wall.fresh();
            Wall.due("up to " + ends[i], gather(w, piece(1, 1, ends[i] / 8 - 1, Wall.run(8))), NONE);
            boolean within = ends[i] <= 360;
            gathered("up to " + ends[i], w, within ? 8 : 0, 0, within ? 0 : 8, rows[i], NONE);
            w = Wall.fresh();
            gather(w, part(1, ends[i] / 8 - 1, Wall.run(8)));
            Wall.due("up to " + ends[i] + " of PART", w.x.gathered(3), rows[i]);
        }
    }

    private static void rowsOfMorePieces() {
        Wall w = Wall.fresh();
        int[] ends = {64, 8, 72, 64, 128, 136, 8, 256, 264, 8, 368};
        int[] rows = {64, 64, 128, 128, 128, 256, 256, 256, 360, 360, 360};
        for (int i = 0; i < ends.length; i++) {
            gather(w, piece(1, 1, ends[i] / 8 - 1, Wall.run(8)));
            Wall.due("all that came goes in, " + i, w.x.gathered(3), rows[i]);
        }
        gather(w, piece(1, 0, 33, Wall.run(3)));
        Wall.due("then as many as the whole", w.x.gathered(3), 267);
        gather(w, piece(1, 1, 0, Wall.run(8)));
        Wall.due("which stays", w.x.gathered(3), 267);
    }

    private static void bytesThatAreThere() {
        Wall w = Wall.fresh();
        gather(w, piece(1, 1, 1, Wall.run(8)));
        gather(w, piece(1, 1, 1, new int[8]));
        gathered("all of them", w, 0, 8, 0, 64, NONE);
        gather(w, piece(1, 1, 0, new int[24]));
        gathered("those between", w, 16, 8, 0, 64, NONE);
        Wall.due("it becomes whole", gather(w, piece(1, 0, 3, Wall.b(200))), 1);
        for (int i = 0; i < 25; i++) {
            int want = i == 24 ? 200 : i >= 8 && i < 16 ? i - 7 : 0;
            Wall.due("byte " + i, w.x.at(1, 24 + i), want);
        }
    }

    private static void bytesBeyond360() {
        Wall w = Wall.fresh();
        gather(w, piece(1, 1, 43, Wall.run(16)));
        gathered("up to 360", w, 16, 0, 0, 360, NONE);
        gather(w, piece(1, 1, 43, Wall.run(24)));
        gathered("up to 368", w, 0, 16, 8, 360, NONE);
        gather(w, piece(1, 1, 45, Wall.run(8)));
        gathered("from 360 on", w, 0, 0, 8, 360, NONE);
        Wall.due("the whole of 360 then", gather(w, piece(1, 0, 44, Wall.run(8))), NONE);
        gathered("the whole of 360 then", w, 0, 8, 0, 360, 360);
    }

    private static void bytesBeyondTheWhole() {
        Wall w = Wall.fresh();
        gather(w, piece(1, 0, 1, Wall.run(5)));
        gather(w, piece(1, 1, 1, Wall.run(8)));
        gathered("three beyond 13", w, 0, 5, 3, 13, 13);
        gather(w, piece(1, 1, 2, Wall.run(8)));
        gathered("all beyond 13", w, 0, 0, 8, 13, 13);
        Wall.due("more than all at once", gather(w, piece(1, 1, 0, Wall.run(16))), 1);
        gathered("more than all at once", w, 8, 5, 3, 13, 13);
        Wall.due("its length", w.x.at(1, NONE), 24 + 13);
    }

    private static void bytesThatAreLost() {
        Wall w = Wall.fresh();
        gather(w, piece(1, 1, 1, Wall.run(16)));
        gather(w, piece(1, 0, 1, Wall.run(3)));
        gathered("the whole within what came", w, 0, 3, 0, 11, 11);
        Wall.due("it is whole", gather(w, piece(1, 1, 0, Wall.run(8))), 1);
        Wall.due("no byte beyond it", w.x.at(1, NONE), 24 + 11);
        w = Wall.fresh();
        gather(w, piece(1, 1, 0, Wall.run(64)));
        Wall.due("the whole ends within the first", gather(w, piece(1, 0, 1, Wall.run(2))), 1);
        Wall.due("its length", w.x.at(1, NONE), 24 + 10);
    }

    private static void allBytesButNoWhole() {
        Wall w = Wall.fresh();
        gather(w, piece(1, 1, 0, Wall.run(176)));
        Wall.due("all 360 are there, more come", gather(w, piece(1, 1, 22, Wall.run(184))), NONE);
        gathered("all 360", w, 184, 0, 0, 360, NONE);
        Wall.due("it stays", w.x.told(2), 1);
        Wall.due("the whole is told", gather(w, piece(1, 0, 44, Wall.run(8))), 1);
        gathered("the whole is told", w, 0, 8, 0, 360, 360);
        Wall.due("its length", w.x.at(1, NONE), 384);
    }

    private static void eachOfTheNames() {
        int[] first = Wall.link(4, Wall.fourPiece(99, 5, 1, 0, 10, 11, Wall.run(8)));
        int[][] others = {Wall.link(4, Wall.fourPiece(98, 5, 1, 0, 10, 11, Wall.run(8))), Wall.link(4, Wall.fourPiece(99, 6, 1, 0, 10, 11, Wall.run(8))),
            Wall.link(4, Wall.fourPiece(99, 5, 1, 0, 12, 11, Wall.run(8))), Wall.link(4, Wall.fourPiece(99, 5, 1, 0, 10, 12, Wall.run(8))), part(1, 0, Wall.run(8))};
        for (int i = 0; i < others.length; i++) {
            Wall w = Wall.fresh();
            gather(w, first);
            gather(w, others[i]);
            Wall.due("another name of FOUR, " + i, w.x.told(2), 2);
        }
        int[][] parts = {Wall.link(6, Wall.six(44, 12, 11, Wall.part(99, 0, 1, 5, Wall.run(8)))), Wall.link(6, Wall.six(44, 10, 12, Wall.part(99, 0, 1, 5, Wall.run(8)))),
            Wall.link(6, Wall.six(44, 10, 11, Wall.part(98, 0, 1, 5, Wall.run(8)))), Wall.link(6, Wall.six(44, 10, 11, Wall.part(99, 0, 1, 5 + (1L << 31), Wall.run(8))))};
        for (int i = 0; i < parts.length; i++) {
            Wall w = Wall.fresh();
            gather(w, part(1, 0, Wall.run(8)));
            gather(w, parts[i]);
            Wall.due("another name of PART, " + i, w.x.told(2), 2);
        }
        Wall w = Wall.fresh();
        gather(w, first);
        int[] tagged = Wall.with(Wall.with(Wall.fourPiece(99, 5, 3, 1, 10, 11, Wall.run(8)), 1, 77), 8, 9);
        gather(w, Wall.link(9, Wall.tag(1, 2, 4, tagged)));
        Wall.due("mark, life, flags and what is ahead are no names", w.x.told(2), 1);
    }

    private static void aGatheringInPlaceOfAnother() {
        Wall w = Wall.fresh();
        gather(w, piece(1, 1, 0, Wall.run(8)));
        gather(w, piece(1, 1, 40, Wall.run(8)));
        Wall.due("a row of 360", w.x.gathered(3), 360);
        w.x.tick(30);
        gather(w, piece(1, 1, 1, Wall.run(8)));
        gathered("nothing of the one before", w, 8, 0, 0, 64, NONE);
        gather(w, piece(1, 0, 2, Wall.run(1)));
        Wall.due("whose headers are not kept", gather(w, piece(1, 1, 0, Wall.run(8))), 1);
        gather(w, piece(1, 1, 0, Wall.run(16)));
        gathered("nor of one that became whole", w, 16, 0, 0, 64, NONE);
    }

    private static void headersOfTheFirstWithOffset0() {
        Wall w = Wall.fresh();
        gather(w, Wall.link(9, Wall.tag(1, 2, 4, Wall.fourPiece(99, 1, 1, 0, 10, 11, Wall.run(8)))));
        gather(w, piece(1, 1, 0, Wall.run(8)));
        Wall.due("whole", gather(w, piece(1, 0, 1, Wall.run(1))), 1);
        Wall.due("with the TAG of the first one", w.x.kind(1, 1), 1);
        Wall.due("its length", w.x.at(1, NONE), 4 + 4 + 20 + 9);
        w = Wall.fresh();
        gather(w, piece(1, 0, 1, Wall.run(1)));
        gather(w, piece(1, 1, 0, Wall.run(7)));
        Wall.due("one that was refused is not the first", gather(w, Wall.link(9, Wall.tag(1, 2, 4, Wall.fourPiece(99, 1, 1, 0, 10, 11, Wall.run(8))))), 1);
        Wall.due("with its TAG", w.x.kind(1, 1), 1);
    }

    /** All bytes of a row can't be there without a piece of offset 0, so only what is short of it is seen here. */
    private static void headersThatAreMissing() {
        Wall w = Wall.fresh();
        gather(w, piece(1, 1, 1, Wall.run(352)));
        Wall.due("all but the first eight", gather(w, piece(1, 0, 44, Wall.run(8))), NONE);
        Wall.due("it stays", w.x.told(2), 1);
        Wall.due("the first eight", gather(w, piece(1, 1, 0, Wall.run(8))), 1);
        Wall.due("it is gone", w.x.told(2), 0);
        w = Wall.fresh();
        gather(w, piece(1, 1, 0, Wall.run(8)));
        gather(w, piece(1, 1, 2, Wall.run(8)));
        Wall.due("a hole of eight", gather(w, piece(1, 0, 3, Wall.run(1))), NONE);
        Wall.due("the hole is filled", gather(w, piece(1, 1, 1, Wall.run(8))), 1);
    }

    private static void whatAPacketIsThen() {
        for (int flags : new int[] {1, 3, 5, 7}) {
            Wall w = Wall.fresh();
            gather(w, piece(1, flags, 0, Wall.run(8)));
            Wall.due("whole, flags " + flags, gather(w, piece(1, flags - 1, 1, Wall.run(2))), 1);
            Wall.due("flags", w.x.field(1, 1, 4), 0);
            Wall.due("offset", w.x.field(1, 1, 5), 0);
            Wall.due("total", w.x.field(1, 1, 2), 30);
            Wall.due("sum", w.x.field(1, 1, 8), w.x.sum(1, 1));
            Wall.due("no finding", w.x.read(1), 3);
            Wall.due("mark", w.x.mark(1), 0);
            Wall.due("the piece itself stays", w.x.at(0, NONE), 26);
        }
    }

    private static void sumOfAPacketThen() {
        Wall w = Wall.fresh();
        int[] first = Wall.fourPiece(99, 1, 1, 0, 0xfedcba98L, 0x89abcdefL, Wall.run(8));
        gather(w, Wall.link(4, Wall.with(Wall.with(first, 10, 0x12), 11, 0x34)));
        Wall.due("whole", gather(w, Wall.link(4, Wall.fourPiece(99, 1, 0, 1, 0xfedcba98L, 0x89abcdefL, Wall.run(3)))), 1);
        Wall.due("its own sum counted as 0", w.x.field(1, 1, 8), w.x.sum(1, 1));
        Wall.due("from stays", w.x.field(1, 1, 9), 0xfedcba98L);
        Wall.due("to stays", w.x.field(1, 1, 10), 0x89abcdefL);
        Wall.due("life stays", w.x.field(1, 1, 6), 64);
        Wall.due("no sum becomes another", w.x.repair(1), 0);
    }

    private static void whatPartIsThen() {
        Wall w = Wall.fresh();
        int[] around = Wall.link(6, Wall.six(0, 10, 11, Wall.hops(44, 1, Wall.part(1, 0, 1, 5, Wall.control(8, 9, Wall.b())))));
        gather(w, around);
        Wall.due("whole behind HOPS", gather(w, Wall.link(6, Wall.six(44, 10, 11, Wall.part(1, 1, 0, 5, Wall.b(1))))), 1);
        Wall.due("SIX's next stays", w.x.field(1, 1, 2), 0);
        Wall.due("HOPS' next is PART's", w.x.field(1, 2, 0), 1);
        Wall.due("SIX's length", w.x.field(1, 1, 1), 16 + 9);
        Wall.due("LINK, SIX, HOPS, CONTROL, REST", w.x.read(1), 5);
        gather(w, Wall.link(6, Wall.six(43, 10, 11, Wall.route(44, 0, 0, Wall.part(1, 0, 1, 6, Wall.control(8, 9, Wall.b()))))));
        Wall.due("whole behind ROUTE", gather(w, Wall.link(6, Wall.six(44, 10, 11, Wall.part(1, 1, 0, 6, Wall.b(1))))), 2);
        Wall.due("ROUTE's next is PART's", w.x.field(2, 2, 0), 1);
        Wall.due("whole behind SIX", gather(w, Wall.link(6, Wall.six(44, 10, 11, Wall.part(255, 0, 0, 7, Wall.b(1))))), 3);
        Wall.due("SIX's next is PART's", w.x.field(3, 1, 2), 255);
        Wall.due("SIX's length", w.x.field(3, 1, 1), 1);
    }

    private static void eightGatherings(Wall w) {
        for (int number = 0; number < 8; number++) {
            Wall.due("gathering " + number, gather(w, piece(number, 1, 0, Wall.run(8))), NONE);
            Wall.due("how many", w.x.told(2), number + 1);
        }
    }

    private static void aNinthGathering() {
        Consumer<Wall> ninth = w -> {
            eightGatherings(w);
            w.packet(0, piece(8, 1, 0, Wall.run(16)));
        };
        Wall.refused("a ninth", ninth, x -> x.gather(0), ROOM);
        Consumer<Wall> whole = w -> {
            eightGatherings(w);
            w.packet(0, part(0, 0, Wall.run(1)));
        };
        Wall.refused("a ninth that would be whole", whole, x -> x.gather(0), ROOM);
        Consumer<Wall> odd = w -> {
            eightGatherings(w);
            w.packet(0, piece(8, 1, 0, Wall.run(9)));
        };
        Wall.refused("a ninth that is none", odd, x -> x.gather(0), STATE);
        Wall w = Wall.fresh();
        eightGatherings(w);
        Wall.due("the eighth goes on", gather(w, piece(7, 1, 1, Wall.run(8))), NONE);
        Wall.due("the first ends", gather(w, piece(0, 0, 1, Wall.run(1))), 1);
        Wall.due("seven are left", w.x.told(2), 7);
        Wall.due("another one", gather(w, piece(8, 1, 0, Wall.run(8))), NONE);
        gathered("it is new", w, 8, 0, 0, 64, NONE);
    }

    private static void fillPackets(Wall w) {
        for (int p = 1; p < 24; p++) {
            w.packet(p, p);
        }
    }

    private static void noPacketIsFree() {
        Wall w = Wall.fresh();
        gather(w, piece(1, 1, 0, Wall.run(8)));
        fillPackets(w);
        Wall.due("none is free", gather(w, piece(1, 0, 1, Wall.run(3))), ROOM);
        gathered("it is gathered", w, 3, 0, 0, 11, 11);
        Wall.due("the gathering stays", w.x.told(2), 1);
        Wall.due("none is free, anew", gather(w, piece(1, 1, 0, Wall.run(8))), ROOM);
        gathered("anew", w, 0, 8, 0, 11, 11);
        Wall.due("none is free, what is beyond", gather(w, piece(1, 1, 2, Wall.run(8))), ROOM);
        Wall.due("no byte of a packet changed", w.x.at(23, NONE), 1);
        w.x.drop(23);
        Wall.due("dropping alone does nothing", w.x.told(2), 1);
        Wall.refused("a piece that is none does nothing", v -> {
            gather(v, piece(1, 1, 0, Wall.run(8)));
            fillPackets(v);
            gather(v, piece(1, 0, 1, Wall.run(3)));
            v.x.drop(23);
            v.packet(0, piece(1, 1, 0, Wall.run(7)));
        }, x -> x.gather(0), STATE);
        Wall.due("the next piece finds it free", gather(w, piece(1, 1, 2, Wall.run(8))), 23);
        Wall.due("its length", w.x.at(23, NONE), 35);
        Wall.due("the gathering is gone", w.x.told(2), 0);
    }

    private static void theLeastFreePacket() {
        Wall w = Wall.fresh();
        fillPackets(w);
        w.x.drop(22);
        w.x.drop(4);
        w.x.drop(5);
        Wall.due("the least", gather(w, part(0, 0, Wall.run(1))), 4);
        Wall.due("the next", gather(w, part(0, 0, Wall.run(1))), 5);
        Wall.due("the last", gather(w, part(0, 0, Wall.run(1))), 22);
        Wall.due("no more", gather(w, part(0, 0, Wall.run(1))), ROOM);
        w = Wall.fresh().packet(5, part(0, 0, Wall.run(1)));
        Wall.due("packet 0", w.x.gather(5), 0);
    }

    private static int[] wide(int number) {
        int[] four = Wall.join(Wall.b(0x4f, 3), Wall.two(68), Wall.two(number), Wall.two(1 << 13), Wall.b(64, 99), Wall.two(0), Wall.number(10, 4), Wall.number(11, 4), new int[40], Wall.run(8));
        return Wall.link(4, four);
    }

    private static void moreThan400() {
        Wall w = Wall.fresh();
        gather(w, wide(1));
        gather(w, piece(1, 1, 1, Wall.run(320)));
        Wall.due("64 and 336 bytes", gather(w, piece(1, 0, 41, Wall.run(8))), 1);
        Wall.due("its length", w.x.at(1, NONE), 400);
        gather(w, wide(2));
        gather(w, piece(2, 1, 1, Wall.run(320)));
        Wall.due("64 and 337 bytes", gather(w, piece(2, 0, 41, Wall.run(9))), ROOM);
        gathered("it is gathered", w, 9, 0, 0, 337, 337);
        Wall.due("the gathering stays", w.x.told(2), 1);
        Wall.due("no packet came", w.x.told(1), 2);
        Wall.due("it is looked at anew", gather(w, piece(2, 1, 0, Wall.run(8))), ROOM);
        gathered("anew", w, 0, 8, 0, 337, 337);
        w.x.tick(30);
        Wall.due("till it has lived", w.x.told(2), 0);
        w = Wall.fresh();
        gather(w, wide(2));
        gather(w, piece(2, 1, 1, Wall.run(320)));
        gather(w, piece(2, 1, 41, Wall.run(24)));
        Wall.due("64 and 360 bytes", gather(w, piece(2, 0, 44, Wall.run(8))), ROOM);
    }

    private static void moreThan400OfPart() {
        for (int more = 0; more < 2; more++) {
            Wall w = Wall.fresh();
            int[] first = Wall.link(6, Wall.six(43, 10, 11, Wall.route(44, 1, 0, Wall.part(99, 0, 1, 5, Wall.run(336)))));
            gather(w, first);
            int last = 400 - 4 - 24 - 16 - 336 + more;
            Wall.due("PART that is left out, " + more + " above 400", gather(w, part(0, 42, Wall.run(last))), more == 0 ? 1 : ROOM);
        }
        Wall w = Wall.fresh();
        gather(w, part(1, 0, Wall.run(352)));
        Wall.due("28 and 360 bytes", gather(w, part(0, 44, Wall.run(8))), 1);
        Wall.due("its length", w.x.at(1, NONE), 388);
    }

    private static void thirtyTicks() {
        Wall w = Wall.fresh();
        w.x.tick(3);
        gather(w, piece(1, 1, 0, Wall.run(8)));
        w.x.tick(10);
        gather(w, piece(2, 1, 0, Wall.run(8)));
        w.x.tick(19);
        Wall.due("at the 29th", w.x.told(2), 2);
        gather(w, piece(1, 1, 1, Wall.run(8)));
        gathered("it goes on", w, 8, 0, 0, 64, NONE);
        w.x.tick(1);
        Wall.due("at the 30th", w.x.told(2), 1);
        gathered("of the latest one all the same", w, 8, 0, 0, 64, NONE);
        w.x.tick(9);
        Wall.due("at the 29th of the other", w.x.told(2), 1);
        w.x.tick(1);
        Wall.due("at its 30th", w.x.told(2), 0);
        Wall.due("what comes behind begins anew", gather(w, piece(1, 0, 1, Wall.run(1))), NONE);
        Wall.due("nothing was kept", w.x.gathered(0), 1);
        w.x.tick(1000);
        Wall.due("a thousand at once", w.x.told(2), 0);
    }

    private static void ticks() {
        Wall w = Wall.fresh();
        Wall.due("1", w.x.tick(1), 1);
        Wall.due("1000", w.x.tick(1000), 1001);
        Consumer<Wall> before = v -> {
            gather(v, piece(1, 1, 0, Wall.run(8)));
            v.packet(0, Wall.datagramPacket(10, 1, 11, 2)).x.track(0);
            v.x.bucket(0, 5, 1);
            v.judge("chain a{log spend(0);}");
        };
        for (int n : new int[] {0, -1, 1001, LEAST, MOST}) {
            Wall.refused("tick " + n, before, x -> x.tick(n), OUTSIDE);
        }
    }
}
