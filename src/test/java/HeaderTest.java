/** Promises 7 to 14: headers, findings, fields, sums. */
public final class HeaderTest {
    private static final int NONE = PacketWall.NONE, UNKNOWN = PacketWall.UNKNOWN, OUTSIDE = PacketWall.OUTSIDE;
    private static final int CUT = 1, NOTHING = 2, WRONG = 3, SIZE = 4, TOLD = 5, DEEP = 6;

    public static void main(String[] args) {
        nothingAndOutside();
        kindsAndFields();
        followers();
        cuts();
        wrongOnes();
        sizes();
        toldLengths();
        depth();
        carriedOnes();
        sums();
        repairs();
        asItIsNow();
        Wall.finish();
    }

    private static Wall wall(int... bytes) {
        return Wall.fresh().packet(0, bytes);
    }

    private static void right(String what, int[] bytes, int... kinds) {
        Wall w = wall(bytes);
        Wall.due(what + ": read", w.x.read(0), kinds.length);
        Wall.due(what + ": finding", w.x.finding(0), 0);
        Wall.due(what + ": stand", w.x.finding(1), kinds.length);
        Wall.due(what + ": place", w.x.finding(2), NONE);
        Wall.due(what + ": kind", w.x.finding(3), NONE);
        for (int h = 0; h < kinds.length; h++) {
            Wall.due(what + ": header " + h, w.x.kind(0, h), kinds[h]);
        }
        Wall.due(what + ": behind the last", w.x.kind(0, kinds.length), NONE);
    }

    private static void found(String what, int[] bytes, int finding, int stand, int place, int kind) {
        Wall w = wall(bytes);
        Wall.due(what + ": read", w.x.read(0), -10 - finding);
        Wall.due(what + ": finding", w.x.finding(0), finding);
        Wall.due(what + ": stand", w.x.finding(1), stand);
        Wall.due(what + ": place", w.x.finding(2), place);
        Wall.due(what + ": kind", w.x.finding(3), kind);
        Wall.due(what + ": the one with the finding", w.x.kind(0, stand), NONE);
        Wall.due(what + ": LINK", w.x.kind(0, 0), stand > 0 ? 0 : NONE);
    }

    private static void nothingAndOutside() {
        Wall w = Wall.fresh();
        Wall.due("read -1", w.x.read(-1), OUTSIDE);
        Wall.due("read 24", w.x.read(24), OUTSIDE);
        Wall.due("nothing was read", w.x.finding(1), NONE);
        Wall.due("read of nothing", w.x.read(3), -10 - NOTHING);
        Wall.due("finding of nothing", w.x.finding(0), NOTHING);
        Wall.due("headers of nothing", w.x.finding(1), 0);
        Wall.due("place of nothing", w.x.finding(2), NONE);
        Wall.due("kind of nothing", w.x.finding(3), NONE);
        Wall.due("finding -1", w.x.finding(-1), OUTSIDE);
        Wall.due("finding 4", w.x.finding(4), OUTSIDE);
        Wall.due("kind", w.x.kind(3, 0), UNKNOWN);
        Wall.due("kind 24", w.x.kind(24, 0), UNKNOWN);
        Wall.due("field", w.x.field(3, 0, 0), UNKNOWN);
        Wall.due("place", w.x.place(3, 0), UNKNOWN);
        Wall.due("carried", w.x.carried(3, -1, 0), UNKNOWN);
        Wall.due("sum", w.x.sum(3, 0), UNKNOWN);
        Wall.due("repair", w.x.repair(3), UNKNOWN);
    }

    private static void fields(String what, int[] bytes, int h, int place, long... values) {
        Wall w = wall(bytes);
        Wall.due(what + ": place", w.x.place(0, h), place);
        for (int f = 0; f < values.length; f++) {
            Wall.due(what + ": field " + f, w.x.field(0, h, f), values[f]);
        }
        Wall.due(what + ": field behind", w.x.field(0, h, values.length), NONE);
        Wall.due(what + ": field -1", w.x.field(0, h, -1), NONE);
    }

    private static void kindsAndFields() {
        int[] four = Wall.join(Wall.b(0x46, 200), Wall.two(27), Wall.two(65535), Wall.two(5 << 13 | 4097), Wall.b(250, 99),
                Wall.two(40000), Wall.number(0xfffffffeL, 4), Wall.number(3, 4), Wall.run(4), Wall.run(3));
        fields("LINK", Wall.join(Wall.b(9, 255, 1, 2)), 0, 0, 9, 255, 258);
        fields("TAG", Wall.link(9, Wall.tag(15, 4094, 77, Wall.b())), 1, 4, 15, 4094, 77);
        fields("FOUR", Wall.link(4, four), 1, 4, 6, 200, 27, 65535, 5, 4097, 250, 99, 40000, 0xfffffffeL, 3);
        fields("REST", Wall.link(4, four), 2, 28, 3);
        int[] six = Wall.join(Wall.b(0x6f, 254), Wall.two(0), Wall.b(253, 252), Wall.two(65007), Wall.number(-2, 8), Wall.number(1L << 62, 8));
        fields("SIX", Wall.link(6, six), 1, 4, 254, 0, 253, 252, 65007, -2, 1L << 62);
        fields("HOPS", Wall.link(6, Wall.six(0, 1, 2, Wall.hops(99, 2, Wall.b()))), 2, 28, 99, 2);
        fields("ROUTE", Wall.link(6, Wall.six(43, 1, 2, Wall.route(99, 1, 200, Wall.b()))), 2, 28, 99, 1, 200);
        fields("PART", Wall.link(6, Wall.six(44, 1, 2, Wall.part(99, 8191, 7, 0xffffffffL, Wall.b()))), 2, 28, 99, 8191, 1, 0xffffffffL);
        int[] control = Wall.join(Wall.b(254, 253), Wall.two(65000), Wall.number(0x80000001L, 4));
        fields("CONTROL", Wall.link(4, Wall.four(1, 1, 2, control)), 2, 24, 254, 253, 65000, 0x80000001L);
        int[] stream = Wall.join(Wall.two(65535), Wall.two(40000), Wall.number(0xfffffffeL, 4), Wall.number(0x80000003L, 4), Wall.b(0x5f, 254),
                Wall.two(65001), Wall.two(65002), Wall.two(65003));
        fields("STREAM", Wall.link(4, Wall.four(6, 1, 2, stream)), 2, 24, 65535, 40000, 0xfffffffeL, 0x80000003L, 5, 254, 65001, 65002);
        int[] datagram = Wall.join(Wall.two(65004), Wall.two(65005), Wall.two(9), Wall.two(65006), Wall.b(1));
        fields("DATAGRAM", Wall.link(4, Wall.four(17, 1, 2, datagram)), 2, 24, 65004, 65005, 9, 65006);
        fields("TUNNEL", Wall.link(4, Wall.four(47, 1, 2, Wall.tunnel(65534, 5, Wall.b()))), 2, 24, 65534, 5);
        Wall w = wall(Wall.link(5, Wall.b()));
        Wall.due("place of no header", w.x.place(0, 1), NONE);
        Wall.due("place of header -1", w.x.place(0, -1), NONE);
        Wall.due("field of no header", w.x.field(0, 1, 0), NONE);
        Wall.due("kind of header -1", w.x.kind(0, -1), NONE);
    }

    private static void followers() {
        right("LINK alone", Wall.link(5, Wall.b()), 0);
        right("LINK, REST", Wall.link(5, Wall.b(1)), 0, 11);
        right("TAGS", Wall.link(9, Wall.tag(1, 2, 9, Wall.tag(3, 4, 5, Wall.b(1)))), 0, 1, 1, 11);
        right("FOUR in FOUR", Wall.link(4, Wall.four(4, 1, 2, Wall.four(99, 1, 2, Wall.b(1)))), 0, 2, 2, 11);
        right("SIX in FOUR", Wall.link(4, Wall.four(41, 1, 2, Wall.six(99, 1, 2, Wall.b()))), 0, 2, 3);
        right("FOUR in SIX", Wall.link(6, Wall.six(4, 1, 2, Wall.four(6, 1, 2, Wall.stream(1, 2, 3, 2, 4, Wall.b())))), 0, 3, 2, 8);
        right("FOUR with HOPS' next", Wall.link(4, Wall.four(0, 1, 2, Wall.b(1))), 0, 2, 11);
        right("FOUR with ROUTE's next", Wall.link(4, Wall.four(43, 1, 2, Wall.b(1))), 0, 2, 11);
        right("FOUR with PART's next", Wall.link(4, Wall.four(44, 1, 2, Wall.b(1))), 0, 2, 11);
        right("FOUR with an offset", Wall.link(4, Wall.fourPiece(6, 1, 0, 1, 1, 2, Wall.b(1))), 0, 2, 11);
        right("FOUR with MORE", Wall.link(4, Wall.fourPiece(1, 1, 1, 0, 1, 2, Wall.control(8, 0, Wall.b()))), 0, 2, 7);
        right("HOPS, ROUTE, PART", Wall.link(6, Wall.six(0, 1, 2, Wall.hops(43, 0, Wall.route(44, 0, 0, Wall.part(17, 0, 1, 3,
                Wall.datagram(1, 2, Wall.b(1))))))), 0, 3, 4, 5, 6, 9, 11);
        right("ROUTE, ROUTE", Wall.link(6, Wall.six(43, 1, 2, Wall.route(43, 0, 0, Wall.route(99, 0, 0, Wall.b())))), 0, 3, 5, 5);
        right("PART with an offset", Wall.link(6, Wall.six(44, 1, 2, Wall.part(17, 1, 0, 3, Wall.b(1)))), 0, 3, 6, 11);
        right("TUNNEL to TAG", Wall.link(4, Wall.four(47, 1, 2, Wall.tunnel(0, 9, Wall.tag(0, 0, 4, Wall.four(99, 1, 2, Wall.b()))))), 0, 2, 10, 1, 2);
        right("CONTROL 3 with FOUR", Wall.link(4, Wall.four(1, 1, 2, Wall.control(3, 0, Wall.four(17, 1, 2, Wall.datagram(1, 2, Wall.b()))))), 0, 2, 7, 2, 9);
        right("CONTROL 11 with SIX", Wall.link(4, Wall.four(1, 1, 2, Wall.control(11, 0, Wall.six(99, 1, 2, Wall.b())))), 0, 2, 7, 3);
        right("CONTROL 3 with another", Wall.link(4, Wall.four(1, 1, 2, Wall.control(3, 0, Wall.b(0x55)))), 0, 2, 7, 11);
        right("CONTROL 3 with nothing", Wall.link(4, Wall.four(1, 1, 2, Wall.control(3, 0, Wall.b()))), 0, 2, 7);
        right("CONTROL 8 with FOUR", Wall.link(4, Wall.four(1, 1, 2, Wall.control(8, 0, Wall.four(17, 1, 2, Wall.b())))), 0, 2, 7, 11);
        right("STREAM with its words", Wall.link(4, Wall.four(6, 1, 2, Wall.with(Wall.stream(1, 2, 3, 2, 4, Wall.run(5)), 12, 0x60))), 0, 2, 8, 11);
    }

    private static void cuts() {
        found("no byte", Wall.b(), CUT, 0, 0, 0);
        found("3 of LINK", Wall.b(1, 2, 0), CUT, 0, 3, 0);
        found("no TAG", Wall.link(9, Wall.b()), CUT, 1, 4, 1);
        found("no FOUR", Wall.link(4, Wall.b()), CUT, 1, 4, 2);
        found("1 of FOUR", Wall.link(4, Wall.b(0x45)), CUT, 1, 5, 2);
        found("19 of FOUR with wrong words", Wall.link(4, Wall.join(Wall.b(0x41), Wall.run(18))), CUT, 1, 23, 2);
        found("FOUR's words", Wall.link(4, Wall.with(Wall.four(99, 1, 2, Wall.b()), 0, 0x46)), CUT, 1, 24, 2);
        found("23 of SIX", Wall.link(6, Wall.join(Wall.b(0x60), Wall.run(22))), CUT, 1, 27, 3);
        found("1 of HOPS", Wall.link(6, Wall.six(0, 1, 2, Wall.b(0))), CUT, 2, 29, 4);
        found("15 of 16 of HOPS", Wall.link(6, Wall.six(0, 1, 2, Wall.join(Wall.b(99, 1), Wall.run(13)))), CUT, 2, 43, 4);
        found("7 of PART", Wall.link(6, Wall.six(44, 1, 2, Wall.run(7))), CUT, 2, 35, 6);
        found("7 of CONTROL", Wall.link(4, Wall.four(1, 1, 2, Wall.run(7))), CUT, 2, 31, 7);
        found("19 of STREAM", Wall.link(4, Wall.four(6, 1, 2, new int[19])), CUT, 2, 43, 8);
        found("STREAM's words", Wall.link(4, Wall.four(6, 1, 2, Wall.with(Wall.stream(1, 2, 3, 2, 4, Wall.run(3)), 12, 0x60))), CUT, 2, 47, 8);
        found("7 of DATAGRAM", Wall.link(4, Wall.four(17, 1, 2, new int[7])), CUT, 2, 31, 9);
        found("3 of TUNNEL", Wall.link(4, Wall.four(47, 1, 2, new int[3])), CUT, 2, 27, 10);
    }

    private static void wrongOnes() {
        found("SIX for FOUR, cut too", Wall.link(4, Wall.b(0x60)), WRONG, 1, 4, 2);
        found("FOUR for SIX", Wall.link(6, Wall.four(99, 1, 2, Wall.b())), WRONG, 1, 4, 3);
        found("a FOUR in FOUR that is none", Wall.link(4, Wall.four(4, 1, 2, Wall.b(0x55))), WRONG, 2, 24, 2);
        found("HOPS behind HOPS", Wall.link(6, Wall.six(0, 1, 2, Wall.hops(0, 0, Wall.b()))), WRONG, 3, 36, 4);
        found("HOPS behind ROUTE", Wall.link(6, Wall.six(43, 1, 2, Wall.route(0, 0, 0, Wall.b(1)))), WRONG, 3, 36, 4);
        found("PART behind PART", Wall.link(6, Wall.six(44, 1, 2, Wall.part(44, 0, 0, 1, Wall.b()))), WRONG, 3, 36, 6);
        found("ROUTE behind PART", Wall.link(6, Wall.six(44, 1, 2, Wall.part(43, 0, 0, 1, Wall.b()))), WRONG, 3, 36, 5);
    }

    private static void sizes() {
        found("FOUR's words, told wrong too", Wall.link(4, Wall.with(Wall.with(Wall.four(99, 1, 2, Wall.b(1)), 0, 0x44), 3, 9)), SIZE, 1, 4, 2);
        found("STREAM's words", Wall.link(4, Wall.four(6, 1, 2, Wall.with(Wall.stream(1, 2, 3, 2, 4, Wall.b()), 12, 0x4f))), SIZE, 2, 36, 8);
    }

    private static void toldLengths() {
        found("total", Wall.link(4, Wall.with(Wall.four(99, 1, 2, Wall.b(1)), 3, 20)), TOLD, 1, 6, 2);
        found("SIX's length", Wall.link(6, Wall.with(Wall.six(99, 1, 2, Wall.b(1)), 3, 25)), TOLD, 1, 6, 3);
        found("DATAGRAM's length", Wall.link(4, Wall.four(17, 1, 2, Wall.with(Wall.datagram(1, 2, Wall.b(1)), 5, 8))), TOLD, 2, 28, 9);
        found("a byte behind all", Wall.join(Wall.link(4, Wall.four(99, 1, 2, Wall.b(1))), Wall.b(0)), TOLD, 1, 6, 2);
    }

    private static int[] tags(int n, int kind, int[] body) {
        int[] made = Wall.tag(0, 0, kind, body);
        for (int i = 1; i < n; i++) {
            made = Wall.tag(0, 0, 9, made);
        }
        return Wall.link(9, made);
    }

    private static void depth() {
        right("12 headers", tags(11, 5, Wall.b()), 0, 1, 1, 1, 1, 1, 1, 1, 1, 1, 1, 1);
        found("REST as the 13th", tags(11, 5, Wall.b(1)), DEEP, 12, 48, 11);
        found("FOUR as the 13th, without a byte", tags(11, 4, Wall.b()), DEEP, 12, 48, 2);
        found("TAG as the 13th", tags(12, 5, Wall.b()), DEEP, 12, 48, 1);
        int[] six = Wall.six(44, 1, 2, Wall.part(44, 0, 0, 1, Wall.b()));
        found("DEEP ahead of WRONG", tags(9, 6, six), DEEP, 12, 4 + 36 + 32, 6);
    }

    private static void carriedOnes() {
        Wall w = wall(Wall.link(4, Wall.four(1, 1, 2, Wall.control(3, 0, Wall.four(17, 1, 2, Wall.datagram(1, 2, Wall.b(1)))))));
        Wall.due("LINK is none", w.x.carried(0, 0, 6), 0);
        Wall.due("CONTROL, then FOUR", w.x.carried(0, 2, 3), 1);
        Wall.due("DATAGRAM alone", w.x.carried(0, 4, 1), 1);
        Wall.due("DATAGRAM, REST", w.x.carried(0, 4, 2), 1);
        Wall.due("none of them", w.x.carried(0, 2, 0), 0);
        Wall.due("none at the end", w.x.carried(0, 6, 0), 0);
        Wall.due("one at the end", w.x.carried(0, 6, 1), OUTSIDE);
        Wall.due("behind the end", w.x.carried(0, 7, 0), OUTSIDE);
        Wall.due("h below 0", w.x.carried(0, -1, 1), OUTSIDE);
        Wall.due("n below 0", w.x.carried(0, 0, -1), OUTSIDE);
        Wall.due("very many", w.x.carried(0, 1, Integer.MAX_VALUE), OUTSIDE);
    }

    private static void sums() {
        int[] body = Wall.datagram(0xfe35, 0xfd36, Wall.run(3));
        int[] packet = Wall.link(4, Wall.four(17, 0xc0000201L, 9, body));
        Wall w = wall(packet);
        int[] four = Wall.join(Wall.b(0x45, 3), Wall.two(31), Wall.two(7), Wall.two(0), Wall.b(64, 17), Wall.two(0), Wall.number(0xc0000201L, 4), Wall.number(9, 4));
        Wall.due("FOUR's", w.x.sum(0, 1), Wall.sumOf(four));
        int[] ahead = Wall.join(Wall.number(0xc0000201L, 4), Wall.number(9, 4), Wall.two(11), Wall.two(17));
        Wall.due("DATAGRAM's", w.x.sum(0, 2), Wall.sumOf(Wall.join(ahead, body)));
        Wall.due("LINK's", w.x.sum(0, 0), NONE);
        Wall.due("REST's", w.x.sum(0, 3), NONE);
        Wall.due("none such", w.x.sum(0, 4), NONE);
        Wall.due("header -1", w.x.sum(0, -1), NONE);

        int[] stream = Wall.stream(1, 2, 3, 2, 4, Wall.b());
        w = wall(Wall.link(6, Wall.six(0, -5, 1L << 40, Wall.hops(6, 0, stream))));
        ahead = Wall.join(Wall.number(-5, 8), Wall.number(1L << 40, 8), Wall.two(20), Wall.two(6));
        Wall.due("STREAM's behind SIX", w.x.sum(0, 3), Wall.sumOf(Wall.join(ahead, stream)));
        Wall.due("SIX's", w.x.sum(0, 1), NONE);
        Wall.due("HOPS'", w.x.sum(0, 2), NONE);

        int[] control = Wall.control(8, 0x12345678L, Wall.run(5));
        w = wall(Wall.link(4, Wall.four(1, 1, 2, control)));
        Wall.due("CONTROL's", w.x.sum(0, 2), Wall.sumOf(control));

        int[] inner = Wall.datagram(1, 2, Wall.b());
        w = wall(Wall.link(4, Wall.four(1, 1, 2, Wall.control(3, 0, Wall.four(17, 77, 78, inner)))));
        ahead = Wall.join(Wall.number(77, 4), Wall.number(78, 4), Wall.two(8), Wall.two(17));
        Wall.due("DATAGRAM's by the nearest FOUR", w.x.sum(0, 4), Wall.sumOf(Wall.join(ahead, inner)));

        int[] quiet = Wall.datagram(0, 0, Wall.two(65535 - 17 - 10 - 10 - 1));
        w = wall(Wall.link(4, Wall.four(17, 0, 1, quiet)));
        Wall.due("65535 for DATAGRAM's 0", w.x.sum(0, 2), 65535);
    }

    private static void repairs() {
        Wall w = wall(Wall.link(4, Wall.four(1, 1, 2, Wall.control(3, 0, Wall.four(17, 77, 78, Wall.datagram(1, 2, Wall.b(5)))))));
        Wall.due("repair", w.x.repair(0), 4);
        Wall.due("repair again", w.x.repair(0), 0);
        for (int h : new int[] {1, 2, 3, 4}) {
            int f = new int[] {0, 8, 2, 8, 3}[h];
            Wall.due("sum of " + h, w.x.field(0, h, f), w.x.sum(0, h));
        }
        w.x.set(0, 24, 11);
        Wall.due("CONTROL's type became another", w.x.repair(0), 1);
        w = wall(Wall.link(4, Wall.four(6, 1, 2, Wall.with(Wall.stream(1, 2, 3, 2, 4, Wall.b()), 12, 0x40))));
        Wall.due("only what stands ahead of a finding", w.x.repair(0), 1);
    }

    private static void asItIsNow() {
        Wall w = wall(Wall.link(4, Wall.four(17, 1, 2, Wall.datagram(1, 2, Wall.b()))));
        w.x.read(0);
        w.x.set(0, 13, 99);
        Wall.due("kind as it is now", w.x.kind(0, 2), 11);
        Wall.due("finding of the latest read", w.x.finding(1), 3);
    }
}
