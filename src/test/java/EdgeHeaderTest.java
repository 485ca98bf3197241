import java.util.Arrays;
import java.util.function.Consumer;

/** Each boundary of HEADERS, FINDINGS, FIELDS and SUMS: promises 7 to 14. */
public final class EdgeHeaderTest {
    private static final int NONE = PacketWall.NONE, UNKNOWN = PacketWall.UNKNOWN, OUTSIDE = PacketWall.OUTSIDE;
    private static final int CUT = 1, NOTHING = 2, WRONG = 3, SIZE = 4, TOLD = 5, DEEP = 6;
    private static final int LINK = 0, TAG = 1, FOUR = 2, SIX = 3, HOPS = 4, ROUTE = 5, PART = 6, CONTROL = 7, STREAM = 8, DATAGRAM = 9, TUNNEL = 10, REST = 11;
    private static final int LEAST = Integer.MIN_VALUE, MOST = Integer.MAX_VALUE;
    private static final int[] NO_BYTES = {};
    private static final int[] NO_HEADERS = {-1, 12, LEAST, MOST};

    public static void main(String[] args) {
        readNumbers();
        findingNumbers();
        aRefusedReadChangesNothing();
        eachKindCutAtEachByte();
        kindsByTwos();
        nextsOfFour();
        nextsOfTheOthers();
        offsets();
        whatControlCarries();
        whatStandsBehindTheLastOnes();
        otherVersions();
        misplacedOnes();
        wordsOfFour();
        wordsOfStream();
        totals();
        lengthsOfSix();
        lengthsOfDatagram();
        twelveHeaders();
        deepAheadOfAllElse();
        numbersOfHeaders();
        numbersOfFields();
        greatestFields();
        eachBitOfEachField();
        carriedEdges();
        oddBytesInSums();
        sumsThatFold();
        sumsThatAreNothing();
        whichHaveSums();
        repairEdges();
        Wall.finish();
    }

    private static void found(String what, int[] bytes, int finding, int stand, int place, int kind) {
        Wall w = Wall.fresh().packet(0, bytes);
        Wall.due(what + ": read", w.x.read(0), -10 - finding);
        int[] want = {finding, stand, place, kind};
        for (int i = 0; i < 4; i++) {
            Wall.due(what + ": finding " + i, w.x.finding(i), want[i]);
        }
        for (int h = 0; h <= 12; h++) {
            Wall.due(what + ": header " + h + " stands", w.x.kind(0, h) != NONE ? 1 : 0, h < stand ? 1 : 0);
        }
    }

    private static void right(String what, int[] bytes, int... kinds) {
        Wall w = Wall.fresh().packet(0, bytes);
        Wall.due(what + ": read", w.x.read(0), kinds.length);
        int[] want = {0, kinds.length, NONE, NONE};
        for (int i = 0; i < 4; i++) {
            Wall.due(what + ": finding " + i, w.x.finding(i), want[i]);
        }
        for (int h = 0; h < kinds.length; h++) {
            Wall.due(what + ": kind " + h, w.x.kind(0, h), kinds[h]);
        }
        Wall.due(what + ": behind the last", w.x.kind(0, kinds.length), NONE);
    }

    private static void readNumbers() {
        for (int p : new int[] {0, 23}) {
            Wall w = Wall.fresh().packet(p, Wall.link(5, NO_BYTES));
            Wall.due("read " + p, w.x.read(p), 1);
            w.x.drop(p);
            Wall.due("read of what was dropped, " + p, w.x.read(p), -10 - NOTHING);
        }
        for (int p : new int[] {-1, 24, LEAST, MOST}) {
            Wall.refused("read " + p, w -> w.packet(0, 1).packet(23, 1), x -> x.read(p), OUTSIDE);
        }
    }

    private static void findingNumbers() {
        Wall w = Wall.fresh();
        int[] ahead = {0, NONE, NONE, NONE};
        int[] nothing = {NOTHING, 0, NONE, NONE};
        for (int i = 0; i < 4; i++) {
            Wall.due("finding " + i + " ahead of any", w.x.finding(i), ahead[i]);
        }
        w.x.read(0);
        for (int i = 0; i < 4; i++) {
            Wall.due("finding " + i + " of NOTHING", w.x.finding(i), nothing[i]);
        }
        for (int what : new int[] {-1, 4, LEAST, MOST}) {
            Wall.due("finding " + what, w.x.finding(what), OUTSIDE);
            Wall.due("finding " + what + " ahead of any", Wall.fresh().x.finding(what), OUTSIDE);
        }
    }

    private static void aRefusedReadChangesNothing() {
        Consumer<Wall> found = w -> w.packet(0, Wall.link(4, Wall.b(0x60))).x.read(0);
        for (int p : new int[] {-1, 24}) {
            Wall.refused("read " + p + " behind a finding", found, x -> x.read(p), OUTSIDE);
        }
        Consumer<Wall> none = w -> w.packet(0, Wall.link(5, NO_BYTES)).x.read(0);
        Wall.refused("read 24 behind none", none, x -> x.read(24), OUTSIDE);
        Wall.refused("kind is no read", found, x -> x.kind(0, 0), LINK);
        Wall.refused("field is no read", found, x -> x.field(0, 0, 0), 1);
        Wall.refused("verdict is none either", found, x -> x.verdict(0), PacketWall.STATE);
    }

    // ---- bytes that there are not

    private interface Wrap {
        int[] around(int[] body);
    }

    /** A header that is cut at each of its bytes in turn, then whole. */
    private static void cutAtEachByte(String what, Wrap wrap, int stand, int kind, int[] header) {
        int at = wrap.around(NO_BYTES).length;
        for (int n = 0; n < header.length; n++) {
            found(what + " with " + n + " bytes", wrap.around(Arrays.copyOf(header, n)), CUT, stand, at + n, kind);
        }
        Wall w = Wall.fresh().packet(0, wrap.around(header));
        Wall.due(what + " whole", w.x.read(0), stand + 1);
        Wall.due(what + " whole: its kind", w.x.kind(0, stand), kind);
        Wall.due(what + " whole: its place", w.x.place(0, stand), at);
    }

    private static Wrap inFour(int next) {
        return body -> Wall.link(4, Wall.four(next, 1, 2, body));
    }

    private static Wrap inSix(int next) {
        return body -> Wall.link(6, Wall.six(next, 1, 2, body));
    }

    private static void eachKindCutAtEachByte() {
        cutAtEachByte("LINK", body -> body, 0, LINK, Wall.link(5, NO_BYTES));
        cutAtEachByte("TAG", body -> Wall.link(9, body), 1, TAG, Wall.tag(1, 2, 5, NO_BYTES));
        cutAtEachByte("FOUR", body -> Wall.link(4, body), 1, FOUR, Wall.four(99, 1, 2, NO_BYTES));
        cutAtEachByte("FOUR of 6 words", body -> Wall.link(4, body), 1, FOUR, Wall.with(Wall.four(99, 1, 2, Wall.run(4)), 0, 0x46));
        cutAtEachByte("FOUR of 15 words", body -> Wall.link(4, body), 1, FOUR, Wall.with(Wall.four(99, 1, 2, Wall.run(40)), 0, 0x4f));
        cutAtEachByte("SIX", body -> Wall.link(6, body), 1, SIX, Wall.six(99, 1, 2, NO_BYTES));
        cutAtEachByte("HOPS", inSix(0), 2, HOPS, Wall.hops(99, 0, NO_BYTES));
        cutAtEachByte("HOPS of 24", inSix(0), 2, HOPS, Wall.hops(99, 2, NO_BYTES));
        cutAtEachByte("ROUTE", inSix(43), 2, ROUTE, Wall.route(99, 0, 0, NO_BYTES));
        cutAtEachByte("ROUTE of 24", inSix(43), 2, ROUTE, Wall.route(99, 2, 9, NO_BYTES));
        cutAtEachByte("PART", inSix(44), 2, PART, Wall.part(99, 0, 0, 1, NO_BYTES));
        cutAtEachByte("CONTROL", inFour(1), 2, CONTROL, Wall.control(8, 0, NO_BYTES));
        cutAtEachByte("STREAM", inFour(6), 2, STREAM, Wall.stream(1, 2, 3, 2, 4, NO_BYTES));
        cutAtEachByte("STREAM of 15 words", inSix(6), 2, STREAM, Wall.with(Wall.stream(1, 2, 3, 2, 4, Wall.run(40)), 12, 0xf0));
        cutAtEachByte("DATAGRAM", inFour(17), 2, DATAGRAM, Wall.datagram(1, 2, NO_BYTES));
        cutAtEachByte("TUNNEL", inFour(47), 2, TUNNEL, Wall.tunnel(0, 5, NO_BYTES));
        found("HOPS of 2048", Wall.link(6, Wall.six(0, 1, 2, Wall.join(Wall.b(99, 255), Wall.run(300)))), CUT, 2, 330, HOPS);
        int[] wide = Wall.link(6, Wall.six(0, 1, 2, Wall.hops(99, 45, NO_BYTES)));
        right("HOPS of 368, a packet of 396", wide, LINK, SIX, HOPS);
    }

    // ---- which kind comes next

    private static void kindsByTwos() {
        for (int kind : new int[] {0, 3, 5, 7, 8, 10, 0x0400, 0x0104, 65535}) {
            right("LINK of kind " + kind, Wall.link(kind, Wall.b(0x45)), LINK, REST);
            right("TAG of kind " + kind, Wall.link(9, Wall.tag(0, 0, kind, Wall.b(0x45))), LINK, TAG, REST);
            right("TUNNEL of kind " + kind, Wall.link(4, Wall.four(47, 1, 2, Wall.tunnel(0, kind, Wall.b(0x45)))), LINK, FOUR, TUNNEL, REST);
        }
        int[] four = Wall.four(99, 1, 2, NO_BYTES);
        int[] six = Wall.six(99, 1, 2, NO_BYTES);
        right("TAG to FOUR", Wall.link(9, Wall.tag(0, 0, 4, four)), LINK, TAG, FOUR);
        right("TAG to SIX", Wall.link(9, Wall.tag(0, 0, 6, six)), LINK, TAG, SIX);
        right("TUNNEL to FOUR", Wall.link(4, Wall.four(47, 1, 2, Wall.tunnel(0, 4, four))), LINK, FOUR, TUNNEL, FOUR);
        right("TUNNEL to SIX", Wall.link(6, Wall.six(47, 1, 2, Wall.tunnel(0, 6, six))), LINK, SIX, TUNNEL, SIX);
    }

    private static void nextsOfFour() {
        for (int next : new int[] {0, 2, 3, 5, 7, 16, 18, 40, 42, 43, 44, 45, 46, 48, 255}) {
            right("FOUR of next " + next, Wall.link(4, Wall.four(next, 1, 2, Wall.b(0x45))), LINK, FOUR, REST);
            right("FOUR of next " + next + ", no byte", Wall.link(4, Wall.four(next, 1, 2, NO_BYTES)), LINK, FOUR);
        }
    }

    private static void nextsOfTheOthers() {
        for (int next : new int[] {2, 3, 5, 7, 16, 18, 40, 42, 45, 46, 48, 255}) {
            int[] one = Wall.b(0x45);
            right("SIX of next " + next, Wall.link(6, Wall.six(next, 1, 2, one)), LINK, SIX, REST);
            right("HOPS of next " + next, Wall.link(6, Wall.six(0, 1, 2, Wall.hops(next, 0, one))), LINK, SIX, HOPS, REST);
            right("ROUTE of next " + next, Wall.link(6, Wall.six(43, 1, 2, Wall.route(next, 0, 0, one))), LINK, SIX, ROUTE, REST);
            right("PART of next " + next, Wall.link(6, Wall.six(44, 1, 2, Wall.part(next, 0, 0, 1, one))), LINK, SIX, PART, REST);
        }
        int[][] bodies = {Wall.control(8, 0, NO_BYTES), Wall.stream(1, 2, 3, 2, 4, NO_BYTES), Wall.datagram(1, 2, NO_BYTES), Wall.tunnel(0, 5, NO_BYTES),
            Wall.four(99, 1, 2, NO_BYTES), Wall.six(99, 1, 2, NO_BYTES)};
        int[] nexts = {1, 6, 17, 47, 4, 41};
        int[] kinds = {CONTROL, STREAM, DATAGRAM, TUNNEL, FOUR, SIX};
        for (int i = 0; i < nexts.length; i++) {
            String to = " to " + kinds[i];
            right("FOUR" + to, Wall.link(4, Wall.four(nexts[i], 1, 2, bodies[i])), LINK, FOUR, kinds[i]);
            right("SIX" + to, Wall.link(6, Wall.six(nexts[i], 1, 2, bodies[i])), LINK, SIX, kinds[i]);
            right("HOPS" + to, Wall.link(6, Wall.six(0, 1, 2, Wall.hops(nexts[i], 0, bodies[i]))), LINK, SIX, HOPS, kinds[i]);
            right("ROUTE" + to, Wall.link(6, Wall.six(43, 1, 2, Wall.route(nexts[i], 0, 0, bodies[i]))), LINK, SIX, ROUTE, kinds[i]);
            right("PART" + to, Wall.link(6, Wall.six(44, 1, 2, Wall.part(nexts[i], 0, 1, 1, bodies[i]))), LINK, SIX, PART, kinds[i]);
        }
    }

    private static void offsets() {
        int[] body = Wall.control(8, 0, NO_BYTES);
        for (int flags = 0; flags < 8; flags++) {
            right("FOUR with offset 0, flags " + flags, Wall.link(4, Wall.fourPiece(1, 1, flags, 0, 1, 2, body)), LINK, FOUR, CONTROL);
            right("FOUR with offset 1, flags " + flags, Wall.link(4, Wall.fourPiece(1, 1, flags, 1, 1, 2, body)), LINK, FOUR, REST);
        }
        right("FOUR with offset 4096", Wall.link(4, Wall.fourPiece(1, 1, 0, 4096, 1, 2, body)), LINK, FOUR, REST);
        right("FOUR with offset 8191, no byte", Wall.link(4, Wall.fourPiece(1, 1, 0, 8191, 1, 2, NO_BYTES)), LINK, FOUR);
        for (int low = 0; low < 8; low++) {
            right("PART with offset 0, lowest bits " + low, Wall.link(6, Wall.six(44, 1, 2, Wall.part(1, 0, low, 1, body))), LINK, SIX, PART, CONTROL);
        }
        right("PART with offset 1", Wall.link(6, Wall.six(44, 1, 2, Wall.part(1, 1, 0, 1, body))), LINK, SIX, PART, REST);
        right("PART with offset 8191", Wall.link(6, Wall.six(44, 1, 2, Wall.part(1, 8191, 0, 1, body))), LINK, SIX, PART, REST);
        right("PART of PART's next with an offset", Wall.link(6, Wall.six(44, 1, 2, Wall.part(44, 1, 0, 1, body))), LINK, SIX, PART, REST);
    }

    private static void whatControlCarries() {
        int[] four = Wall.four(99, 1, 2, NO_BYTES);
        int[] six = Wall.six(99, 1, 2, NO_BYTES);
        for (int type : new int[] {3, 11}) {
            right("CONTROL " + type + ", FOUR", Wall.link(4, Wall.four(1, 1, 2, Wall.control(type, 0, four))), LINK, FOUR, CONTROL, FOUR);
            right("CONTROL " + type + ", SIX", Wall.link(4, Wall.four(1, 1, 2, Wall.control(type, 0, six))), LINK, FOUR, CONTROL, SIX);
            right("CONTROL " + type + ", no byte", Wall.link(4, Wall.four(1, 1, 2, Wall.control(type, 0, NO_BYTES))), LINK, FOUR, CONTROL);
            for (int first : new int[] {0x00, 0x3f, 0x50, 0x5f, 0x70, 0xff}) {
                right("CONTROL " + type + ", " + first, Wall.link(4, Wall.four(1, 1, 2, Wall.control(type, 0, Wall.b(first)))), LINK, FOUR, CONTROL, REST);
            }
            found("CONTROL " + type + ", one byte of FOUR", Wall.link(4, Wall.four(1, 1, 2, Wall.control(type, 0, Wall.b(0x4f)))), CUT, 3, 33, FOUR);
            found("CONTROL " + type + ", one byte of SIX", Wall.link(4, Wall.four(1, 1, 2, Wall.control(type, 0, Wall.b(0x60)))), CUT, 3, 33, SIX);
        }
        for (int type : new int[] {0, 2, 4, 8, 10, 12, 255}) {
            right("CONTROL " + type, Wall.link(4, Wall.four(1, 1, 2, Wall.control(type, 0, four))), LINK, FOUR, CONTROL, REST);
            right("CONTROL " + type + ", no byte", Wall.link(4, Wall.four(1, 1, 2, Wall.control(type, 0, NO_BYTES))), LINK, FOUR, CONTROL);
        }
    }

    private static void whatStandsBehindTheLastOnes() {
        right("STREAM and a byte", Wall.link(4, Wall.four(6, 1, 2, Wall.stream(1, 2, 3, 2, 4, Wall.b(0x45)))), LINK, FOUR, STREAM, REST);
        right("DATAGRAM and a byte", Wall.link(4, Wall.four(17, 1, 2, Wall.datagram(1, 2, Wall.b(0x45)))), LINK, FOUR, DATAGRAM, REST);
        Wall w = Wall.fresh().packet(0, Wall.link(5, Wall.run(396)));
        Wall.due("REST of 396", w.x.field(0, 1, 0), 396);
        w.packet(0, Wall.link(5, Wall.run(1)));
        Wall.due("REST of 1", w.x.field(0, 1, 0), 1);
    }

    // ---- wrong ones

    private static void otherVersions() {
        for (int high = 0; high < 16; high++) {
            if (high != 4) {
                found("FOUR whose first bits are " + high, Wall.link(4, Wall.b(high << 4 | 5)), WRONG, 1, 4, FOUR);
            }
            if (high != 6) {
                found("SIX whose first bits are " + high, Wall.link(6, Wall.b(high << 4 | 5)), WRONG, 1, 4, SIX);
            }
        }
        found("FOUR with no byte is cut", Wall.link(4, NO_BYTES), CUT, 1, 4, FOUR);
        found("FOUR in SIX that is SIX", Wall.link(6, Wall.six(4, 1, 2, Wall.six(99, 1, 2, NO_BYTES))), WRONG, 2, 28, FOUR);
        found("SIX in FOUR that is FOUR", Wall.link(4, Wall.four(41, 1, 2, Wall.four(99, 1, 2, NO_BYTES))), WRONG, 2, 24, SIX);
        found("wrong ahead of words and total", Wall.link(4, Wall.join(Wall.b(0x31), new int[30])), WRONG, 1, 4, FOUR);
        for (int low = 0; low < 16; low += 5) {
            right("SIX with anything behind the 6, " + low, Wall.link(6, Wall.with(Wall.six(99, 1, 2, NO_BYTES), 0, 0x60 | low)), LINK, SIX);
        }
    }

    private static void misplacedOnes() {
        int[] nexts = {0, 43, 44};
        int[] kinds = {HOPS, ROUTE, PART};
        for (int i = 0; i < 3; i++) {
            for (int[] body : new int[][] {NO_BYTES, Wall.b(1), Wall.run(8)}) {
                String what = "kind " + kinds[i] + " of " + body.length;
                found(what + " behind PART", Wall.link(6, Wall.six(44, 1, 2, Wall.part(nexts[i], 0, 0, 1, body))), WRONG, 3, 36, kinds[i]);
            }
        }
        for (int[] body : new int[][] {NO_BYTES, Wall.b(1), Wall.hops(99, 0, NO_BYTES)}) {
            found("HOPS behind HOPS, " + body.length, Wall.link(6, Wall.six(0, 1, 2, Wall.hops(0, 0, body))), WRONG, 3, 36, HOPS);
            found("HOPS behind ROUTE, " + body.length, Wall.link(6, Wall.six(43, 1, 2, Wall.route(0, 0, 0, body))), WRONG, 3, 36, HOPS);
        }
        right("ROUTE behind HOPS", Wall.link(6, Wall.six(0, 1, 2, Wall.hops(43, 0, Wall.route(99, 0, 0, NO_BYTES)))), LINK, SIX, HOPS, ROUTE);
        right("PART behind HOPS", Wall.link(6, Wall.six(0, 1, 2, Wall.hops(44, 0, Wall.part(99, 0, 0, 0, NO_BYTES)))), LINK, SIX, HOPS, PART);
        right("ROUTE behind ROUTE", Wall.link(6, Wall.six(43, 1, 2, Wall.route(43, 0, 0, Wall.route(99, 0, 0, NO_BYTES)))), LINK, SIX, ROUTE, ROUTE);
        right("PART behind ROUTE", Wall.link(6, Wall.six(43, 1, 2, Wall.route(44, 0, 0, Wall.part(99, 0, 0, 0, NO_BYTES)))), LINK, SIX, ROUTE, PART);
        int[] inner = Wall.six(0, 1, 2, Wall.hops(99, 0, NO_BYTES));
        right("HOPS behind a SIX behind PART", Wall.link(6, Wall.six(44, 1, 2, Wall.part(41, 0, 0, 1, inner))), LINK, SIX, PART, SIX, HOPS);
        found("ROUTE behind HOPS, no byte", Wall.link(6, Wall.six(0, 1, 2, Wall.hops(43, 0, NO_BYTES))), CUT, 3, 36, ROUTE);
    }

    // ---- sizes and lengths

    private static void wordsOfFour() {
        for (int words = 0; words < 5; words++) {
            int[] four = Wall.with(Wall.four(99, 1, 2, NO_BYTES), 0, 0x40 | words);
            found("FOUR of " + words + " words", Wall.link(4, four), SIZE, 1, 4, FOUR);
            found("FOUR of " + words + " words, total wrong", Wall.link(4, Wall.with(four, 3, 77)), SIZE, 1, 4, FOUR);
            found("FOUR of " + words + " words, 19 bytes", Wall.link(4, Arrays.copyOf(four, 19)), CUT, 1, 23, FOUR);
        }
        right("FOUR of 5 words", Wall.link(4, Wall.four(99, 1, 2, NO_BYTES)), LINK, FOUR);
        for (int words = 6; words < 16; words++) {
            int more = 4 * (words - 5);
            int[] four = Wall.with(Wall.four(99, 1, 2, Wall.run(more)), 0, 0x40 | words);
            right("FOUR of " + words + " words", Wall.link(4, four), LINK, FOUR);
            found("FOUR of " + words + " words, a byte short, total wrong", Wall.link(4, Arrays.copyOf(four, 20 + more - 1)), CUT, 1, 24 + more - 1, FOUR);
        }
    }

    private static void wordsOfStream() {
        for (int words = 0; words < 5; words++) {
            int[] stream = Wall.with(Wall.stream(1, 2, 3, 2, 4, NO_BYTES), 12, words << 4 | 15);
            found("STREAM of " + words + " words", Wall.link(4, Wall.four(6, 1, 2, stream)), SIZE, 2, 36, STREAM);
            found("STREAM of " + words + " words, 19 bytes", Wall.link(4, Wall.four(6, 1, 2, Arrays.copyOf(stream, 19))), CUT, 2, 43, STREAM);
        }
        for (int words = 5; words < 16; words++) {
            int[] stream = Wall.with(Wall.stream(1, 2, 3, 2, 4, Wall.run(4 * (words - 5))), 12, words << 4 | 15);
            right("STREAM of " + words + " words", Wall.link(4, Wall.four(6, 1, 2, stream)), LINK, FOUR, STREAM);
            right("STREAM of " + words + " words and a byte", Wall.link(4, Wall.four(6, 1, 2, Wall.join(stream, Wall.b(1)))), LINK, FOUR, STREAM, REST);
        }
    }

    private static void totals() {
        int[] four = Wall.four(99, 1, 2, Wall.b(1, 2));
        right("total of 22", Wall.link(4, four), LINK, FOUR, REST);
        for (int total : new int[] {0, 20, 21, 23, 26, 65535}) {
            int[] told = Wall.with(Wall.with(four, 2, total >> 8), 3, total & 255);
            found("total " + total + " of 22", Wall.link(4, told), TOLD, 1, 6, FOUR);
        }
        found("total 22 and 256", Wall.link(4, Wall.with(four, 2, 1)), TOLD, 1, 6, FOUR);
        right("total of 396", Wall.link(4, Wall.four(99, 1, 2, Wall.run(376))), LINK, FOUR, REST);
        int[] inner = Wall.with(Wall.four(99, 1, 2, NO_BYTES), 3, 21);
        found("an inner total", Wall.link(4, Wall.four(4, 1, 2, inner)), TOLD, 2, 26, FOUR);
    }

    private static void lengthsOfSix() {
        right("length 0", Wall.link(6, Wall.six(99, 1, 2, NO_BYTES)), LINK, SIX);
        found("length 1 of 0", Wall.link(6, Wall.with(Wall.six(99, 1, 2, NO_BYTES), 3, 1)), TOLD, 1, 6, SIX);
        int[] six = Wall.six(99, 1, 2, Wall.b(1, 2));
        for (int length : new int[] {0, 1, 3, 26}) {
            found("length " + length + " of 2", Wall.link(6, Wall.with(six, 3, length)), TOLD, 1, 6, SIX);
        }
        right("length of 372", Wall.link(6, Wall.six(99, 1, 2, Wall.run(372))), LINK, SIX, REST);
    }

    private static void lengthsOfDatagram() {
        right("length 8", Wall.link(4, Wall.four(17, 1, 2, Wall.datagram(1, 2, NO_BYTES))), LINK, FOUR, DATAGRAM);
        int[] datagram = Wall.datagram(1, 2, Wall.b(1, 2));
        right("length 10", Wall.link(4, Wall.four(17, 1, 2, datagram)), LINK, FOUR, DATAGRAM, REST);
        for (int length : new int[] {0, 2, 8, 9, 11}) {
            found("length " + length + " of 10", Wall.link(4, Wall.four(17, 1, 2, Wall.with(datagram, 5, length))), TOLD, 2, 28, DATAGRAM);
        }
        found("7 of DATAGRAM are cut ahead of its length", Wall.link(4, Wall.four(17, 1, 2, new int[7])), CUT, 2, 31, DATAGRAM);
    }

    // ---- at most 12

    private static int[] tags(int n, int kind, int[] body) {
        int[] made = Wall.tag(0, 0, kind, body);
        for (int i = 1; i < n; i++) {
            made = Wall.tag(0, 0, 9, made);
        }
        return Wall.link(9, made);
    }

    private static void twelveHeaders() {
        right("the 12th is REST", tags(10, 5, Wall.b(1)), LINK, TAG, TAG, TAG, TAG, TAG, TAG, TAG, TAG, TAG, TAG, REST);
        right("the 12th is TAG, no byte behind", tags(11, 5, NO_BYTES), LINK, TAG, TAG, TAG, TAG, TAG, TAG, TAG, TAG, TAG, TAG, TAG);
        found("a 13th: REST", tags(11, 5, Wall.b(1)), DEEP, 12, 48, REST);
        found("a 13th: TAG, whole", tags(11, 9, Wall.tag(0, 0, 5, NO_BYTES)), DEEP, 12, 48, TAG);
        found("the 12th is cut", tags(10, 9, Wall.run(3)), CUT, 11, 47, TAG);
    }

    private static void deepAheadOfAllElse() {
        found("a 13th: TAG without a byte", tags(11, 9, NO_BYTES), DEEP, 12, 48, TAG);
        found("a 13th: FOUR without a byte", tags(11, 4, NO_BYTES), DEEP, 12, 48, FOUR);
        found("a 13th: FOUR that is none", tags(11, 4, Wall.b(0x60)), DEEP, 12, 48, FOUR);
        found("a 13th: SIX that is right", tags(11, 6, Wall.six(99, 1, 2, NO_BYTES)), DEEP, 12, 48, SIX);
        int[] hops = Wall.six(0, 1, 2, Wall.hops(0, 0, NO_BYTES));
        found("a 13th: HOPS behind HOPS", tags(9, 6, hops), DEEP, 12, 72, HOPS);
        found("a 12th: HOPS behind HOPS", tags(8, 6, hops), WRONG, 11, 68, HOPS);
    }

    // ---- numbers of headers and fields

    private static void numbersOfHeaders() {
        Consumer<Wall> before = w -> w.packet(0, tags(11, 5, NO_BYTES));
        Wall w = Wall.fresh();
        before.accept(w);
        Wall.due("kind of the last", w.x.kind(0, 11), TAG);
        Wall.due("place of the last", w.x.place(0, 11), 44);
        Wall.due("field of the last", w.x.field(0, 11, 2), 5);
        for (int h : NO_HEADERS) {
            Wall.due("kind of " + h, w.x.kind(0, h), NONE);
            Wall.due("place of " + h, w.x.place(0, h), NONE);
            Wall.due("field of " + h, w.x.field(0, h, 0), NONE);
            Wall.due("sum of " + h, w.x.sum(0, h), NONE);
        }
        for (int p : new int[] {1, -1, 24, LEAST, MOST}) {
            Wall.due("kind, packet " + p, w.x.kind(p, -1), UNKNOWN);
            Wall.due("place, packet " + p, w.x.place(p, -1), UNKNOWN);
            Wall.due("field, packet " + p, w.x.field(p, -1, -1), UNKNOWN);
            Wall.due("sum, packet " + p, w.x.sum(p, -1), UNKNOWN);
            Wall.due("carried, packet " + p, w.x.carried(p, -1, -1), UNKNOWN);
            Wall.refused("repair, packet " + p, before, x -> x.repair(p), UNKNOWN);
        }
    }

    private static void numbersOfFields() {
        int[][] packets = {Wall.link(5, NO_BYTES), Wall.link(9, Wall.tag(0, 0, 5, NO_BYTES)), Wall.link(4, Wall.four(99, 0, 0, NO_BYTES)), Wall.link(6, Wall.six(99, 0, 0, NO_BYTES)),
            Wall.link(6, Wall.six(0, 0, 0, Wall.hops(99, 0, NO_BYTES))), Wall.link(6, Wall.six(43, 0, 0, Wall.route(99, 0, 0, NO_BYTES))),
            Wall.link(6, Wall.six(44, 0, 0, Wall.part(99, 0, 0, 0, NO_BYTES))), Wall.link(4, Wall.four(1, 0, 0, Wall.control(8, 0, NO_BYTES))),
            Wall.link(4, Wall.four(6, 0, 0, Wall.stream(0, 0, 0, 0, 0, NO_BYTES))), Wall.link(4, Wall.four(17, 0, 0, Wall.datagram(0, 0, NO_BYTES))),
            Wall.link(4, Wall.four(47, 0, 0, Wall.tunnel(0, 0, NO_BYTES))), Wall.link(5, Wall.b(1))};
        int[] counts = {3, 3, 11, 7, 2, 3, 4, 4, 8, 4, 2, 1};
        for (int kind = 0; kind < counts.length; kind++) {
            Wall w = Wall.fresh().packet(0, packets[kind]);
            int h = w.x.read(0) - 1;
            Wall.due("the last one's kind", w.x.kind(0, h), kind);
            Wall.due("the last field of kind " + kind, w.x.field(0, h, counts[kind] - 1) != NONE ? 1 : 0, 1);
            for (int f : new int[] {-1, counts[kind], LEAST, MOST}) {
                Wall.due("field " + f + " of kind " + kind, w.x.field(0, h, f), NONE);
            }
        }
    }

    private static void fieldsAre(String what, int[] bytes, int h, long... values) {
        Wall w = Wall.fresh().packet(0, bytes);
        for (int f = 0; f < values.length; f++) {
            Wall.due(what + ": field " + f, w.x.field(0, h, f), values[f]);
        }
    }

    private static int[] all(int n) {
        int[] made = new int[n];
        Arrays.fill(made, 255);
        return made;
    }

    /** Every bit that a header may have set is set, so that a field which takes another one's bits is seen. */
    private static void greatestFields() {
        long four = 0xffffffffL;
        fieldsAre("LINK", all(4), 0, 255, 255, 65535);
        fieldsAre("TAG", Wall.link(9, all(4)), 1, 15, 4095, 65535);
        int[] fourBytes = Wall.join(Wall.b(0x4f, 255), Wall.two(60), all(56));
        fieldsAre("FOUR", Wall.link(4, fourBytes), 1, 15, 255, 60, 65535, 7, 8191, 255, 255, 65535, four, four);
        int[] sixBytes = Wall.join(Wall.b(0x6f, 255), Wall.two(0), all(20));
        fieldsAre("SIX", Wall.link(6, sixBytes), 1, 255, 0, 255, 255, 65535, -1, -1);
        fieldsAre("PART", Wall.link(6, Wall.six(44, 1, 2, all(8))), 2, 255, 8191, 1, four);
        fieldsAre("CONTROL", Wall.link(4, Wall.four(1, 1, 2, all(8))), 2, 255, 255, 65535, four);
        fieldsAre("STREAM", Wall.link(4, Wall.four(6, 1, 2, all(60))), 2, 65535, 65535, four, four, 15, 255, 65535, 65535);
        fieldsAre("DATAGRAM", Wall.link(4, Wall.four(17, 1, 2, Wall.join(all(4), Wall.two(8), all(2)))), 2, 65535, 65535, 8, 65535);
        fieldsAre("TUNNEL", Wall.link(4, Wall.four(47, 1, 2, all(4))), 2, 65535, 65535);
        fieldsAre("ROUTE", Wall.link(6, Wall.six(43, 1, 2, Wall.join(Wall.b(255, 0), all(6)))), 2, 255, 0, 255);
        fieldsAre("HOPS", Wall.link(6, Wall.six(0, 1, 2, Wall.join(Wall.b(255, 1), all(14)))), 2, 255, 1);
    }

    /** Of one kind: how many bits each field has, in order; a negative number is of bits that are no field's. */
    private static final int[][] BITS = {{8, 8, 16}, {4, 12, 16}, {-4, 4, 8, 16, 16, 3, 13, 8, 8, 16, 32, 32}, {-8, 8, 16, 8, 8, 16, 64, 64}, {8, 8}, {8, 8, 8}, {8, -8, 13, -2, 1, 32},
        {8, 8, 16, 32}, {16, 16, 32, 32, 4, -4, 8, 16, 16}, {16, 16, 16, 16}, {16, 16}};
    /** Of one kind: the bits that say how long the header or the packet is, so that they can't be turned. */
    private static final int[][] FIXED = {{}, {}, {0, 8, 16, 32}, {0, 4, 16, 32}, {8, 16}, {8, 16}, {}, {}, {96, 100}, {32, 48}, {}};

    private static boolean isFixed(int kind, int bit) {
        for (int i = 0; i < FIXED[kind].length; i += 2) {
            if (bit >= FIXED[kind][i] && bit < FIXED[kind][i + 1]) {
                return true;
            }
        }
        return false;
    }

    private static long bitsOf(int[] bytes, int at, int count) {
        long value = 0;
        for (int bit = at; bit < at + count; bit++) {
            value = value << 1 | bytes[bit / 8] >> (7 - bit % 8) & 1;
        }
        return value;
    }

    /** One bit of a header is turned at a time, and all its fields are told by a table of their bits. */
    private static void eachBitOfEachField() {
        Wrap[] wraps = {body -> body, body -> Wall.link(9, body), body -> Wall.link(4, body), body -> Wall.link(6, body), inSix(0), inSix(43), inSix(44), inFour(1), inFour(6), inFour(17), inFour(47)};
        int[][] headers = {Wall.link(5, NO_BYTES), Wall.tag(5, 0xa5, 5, NO_BYTES), Wall.four(99, 0x12345678L, 9, NO_BYTES), Wall.six(99, 1L << 60, 2, NO_BYTES), Wall.hops(99, 0, NO_BYTES),
            Wall.route(99, 0, 5, NO_BYTES), Wall.part(99, 5, 1, 7, NO_BYTES), Wall.control(8, 0x01020304L, NO_BYTES), Wall.stream(1, 2, 3, 2, 4, NO_BYTES), Wall.datagram(1, 2, NO_BYTES),
            Wall.tunnel(1, 5, NO_BYTES)};
        for (int kind = 0; kind < headers.length; kind++) {
            for (int bit = 0; bit < 8 * headers[kind].length; bit++) {
                if (isFixed(kind, bit)) {
                    continue;
                }
                int[] header = Wall.with(headers[kind], bit / 8, headers[kind][bit / 8] ^ 128 >> bit % 8);
                Wall w = Wall.fresh().packet(0, wraps[kind].around(header));
                int h = kind == LINK ? 0 : kind <= SIX ? 1 : 2;
                Wall.due("kind " + kind + ", bit " + bit, w.x.kind(0, h), kind);
                int at = 0;
                int f = 0;
                for (int bits : BITS[kind]) {
                    if (bits > 0) {
                        Wall.due("kind " + kind + ", bit " + bit + ", field " + f, w.x.field(0, h, f), bitsOf(header, at, bits));
                        f++;
                    }
                    at += Math.abs(bits);
                }
            }
        }
    }

    private static void carriedEdges() {
        Wall w = Wall.fresh().packet(0, Wall.link(4, Wall.four(1, 1, 2, Wall.control(3, 0, Wall.four(6, 1, 2, Wall.stream(1, 2, 3, 2, 4, Wall.b(1)))))));
        Wall.due("LINK, FOUR, CONTROL, FOUR, STREAM, REST", w.x.read(0), 6);
        Wall.due("all, the first is none", w.x.carried(0, 0, 6), 0);
        Wall.due("one too many", w.x.carried(0, 0, 7), OUTSIDE);
        Wall.due("from the third on", w.x.carried(0, 2, 4), 1);
        Wall.due("from the third on, one too many", w.x.carried(0, 2, 5), OUTSIDE);
        Wall.due("the last, which is none", w.x.carried(0, 5, 1), 0);
        Wall.due("the one before, which goes", w.x.carried(0, 4, 1), 1);
        Wall.due("no one, at the end", w.x.carried(0, 6, 0), 0);
        Wall.due("no one, beyond", w.x.carried(0, 7, 0), OUTSIDE);
        Wall.due("no one, below", w.x.carried(0, -1, 0), OUTSIDE);
        Wall.due("one, below", w.x.carried(0, -1, 2), OUTSIDE);
        Wall.due("fewer than none", w.x.carried(0, 2, -1), OUTSIDE);
        for (int far : new int[] {LEAST, MOST}) {
            Wall.due("from " + far, w.x.carried(0, far, 1), OUTSIDE);
            Wall.due(far + " of them", w.x.carried(0, 1, far), OUTSIDE);
            Wall.due(far + " both", w.x.carried(0, far, far), OUTSIDE);
        }
        w.packet(1).packet(2, Wall.link(6, Wall.six(17, 1, 2, Wall.datagram(1, 2, NO_BYTES))));
        Wall.due("no header, none of them", w.x.carried(1, 0, 0), 0);
        Wall.due("no header, one of them", w.x.carried(1, 0, 1), OUTSIDE);
        Wall.due("all of one", w.x.carried(2, 2, 1), 1);
    }

    // ---- sums

    private static int[] ahead(long from, long to, int bytes, int next) {
        return Wall.join(Wall.number(from, 4), Wall.number(to, 4), Wall.two(bytes), Wall.two(next));
    }

    private static void oddBytesInSums() {
        for (int n = 0; n < 5; n++) {
            int[] control = Wall.control(8, 0x01020304L, all(n));
            Wall w = Wall.fresh().packet(0, Wall.link(4, Wall.four(1, 1, 2, control)));
            Wall.due("CONTROL and " + n, w.x.sum(0, 2), Wall.sumOf(control));
            int[] datagram = Wall.datagram(1, 2, Wall.run(n));
            w.packet(0, Wall.link(4, Wall.four(17, 3, 4, datagram)));
            Wall.due("DATAGRAM and " + n, w.x.sum(0, 2), Wall.sumOf(Wall.join(ahead(3, 4, 8 + n, 17), datagram)));
            int[] stream = Wall.stream(1, 2, 3, 2, 4, Wall.run(n));
            w.packet(0, Wall.link(4, Wall.four(6, 3, 4, stream)));
            Wall.due("STREAM and " + n, w.x.sum(0, 2), Wall.sumOf(Wall.join(ahead(3, 4, 20 + n, 6), stream)));
        }
    }

    private static int sumOfControl(int... data) {
        return Wall.fresh().packet(0, Wall.link(4, Wall.four(1, 1, 2, Wall.join(new int[8], data)))).x.sum(0, 2);
    }

    private static void sumsThatFold() {
        Wall.due("nothing at all", sumOfControl(), 65535);
        Wall.due("65535", sumOfControl(255, 255), 0);
        Wall.due("65535 and 1", sumOfControl(255, 255, 0, 1), 65534);
        Wall.due("65535 twice", sumOfControl(255, 255, 255, 255), 0);
        Wall.due("what folds twice", sumOfControl(255, 255, 255, 255, 0, 1), 65534);
        Wall.due("an odd 255", sumOfControl(255), 0x00ff);
        Wall.due("its own sum counts as 0", Wall.fresh().packet(0, Wall.link(4, Wall.four(1, 1, 2, Wall.b(0, 0, 255, 254, 0, 0, 0, 0)))).x.sum(0, 2), 65535);
        Wall w = Wall.fresh().packet(0, Wall.link(4, Wall.four(1, 1, 2, Wall.join(new int[8], all(368)))));
        Wall.due("all bits of the longest", w.x.sum(0, 2), 0);
    }

    private static void sumsThatAreNothing() {
        int rest = 65535 - 17 - 10 - 10 - 1;
        Wall w = Wall.fresh().packet(0, Wall.link(4, Wall.four(17, 0, 1, Wall.datagram(0, 0, Wall.two(rest)))));
        Wall.due("DATAGRAM: 65535 for 0", w.x.sum(0, 2), 65535);
        w.packet(0, Wall.link(4, Wall.four(17, 0, 1, Wall.datagram(0, 0, Wall.two(rest - 1)))));
        Wall.due("DATAGRAM: 1", w.x.sum(0, 2), 1);
        w.packet(0, Wall.link(4, Wall.four(17, 0, 1, Wall.datagram(0, 0, Wall.two(rest + 1)))));
        Wall.due("DATAGRAM: 65534", w.x.sum(0, 2), 65534);
        int stream = 65535 - 6 - 22 - 1 - 0x5000;
        w.packet(0, Wall.link(4, Wall.four(6, 0, 1, Wall.stream(0, 0, 0, 0, 0, Wall.two(stream)))));
        Wall.due("STREAM: 0 is 0", w.x.sum(0, 2), 0);
        Wall.due("CONTROL: 0 is 0", sumOfControl(255, 255), 0);
        int[] four = Wall.four(99, 0, 0, NO_BYTES);
        int left = Wall.sumOf(four);
        w.packet(0, Wall.link(4, Wall.with(Wall.with(four, 4, left >> 8), 5, (left & 255) + 7)));
        Wall.due("FOUR: 0 is 0", w.x.sum(0, 1), 0);
        w.packet(0, Wall.link(4, Wall.four(17, 0, 1, Wall.datagram(0, 0, Wall.two(rest)))));
        Wall.due("repair puts 65535", w.x.repair(0), 2);
        Wall.due("it is there", w.x.field(0, 2, 3), 65535);
        w.x.set(0, 30, 0);
        w.x.set(0, 31, 0);
        Wall.due("0 is not right for it", w.x.repair(0), 1);
    }

    private static void whichHaveSums() {
        int[] inner = Wall.hops(43, 0, Wall.route(44, 0, 0, Wall.part(47, 0, 1, 1, Wall.tunnel(0, 9, Wall.tag(0, 0, 5, Wall.b(1))))));
        Wall w = Wall.fresh().packet(0, Wall.link(6, Wall.six(0, 1, 2, inner)));
        Wall.due("all the kinds without one", w.x.read(0), 8);
        for (int h = 0; h < 8; h++) {
            Wall.due("sum of kind " + w.x.kind(0, h), w.x.sum(0, h), NONE);
        }
        Wall.refused("nothing to repair", v -> v.packet(0, Wall.link(6, Wall.six(0, 1, 2, inner))), x -> x.repair(0), 0);
        int[] wide = Wall.with(Wall.four(99, 5, 6, Wall.join(Wall.run(40), Wall.run(9))), 0, 0x4f);
        w.packet(0, Wall.link(4, wide));
        Wall.due("FOUR: of its 60 bytes alone", w.x.sum(0, 1), Wall.sumOf(Arrays.copyOf(wide, 60)));
        int[] datagram = Wall.datagram(1, 2, Wall.b(9));
        int[] six = Wall.six(43, 7, 8, Wall.route(17, 0, 0, datagram));
        w.packet(0, Wall.link(4, Wall.four(41, 1, 2, six)));
        int[] ends = Wall.join(Wall.number(7, 8), Wall.number(8, 8), Wall.two(9), Wall.two(17));
        Wall.due("DATAGRAM by the SIX that is nearest", w.x.sum(0, 4), Wall.sumOf(Wall.join(ends, datagram)));
        w.packet(0, Wall.link(6, Wall.six(43, 7, 8, Wall.route(1, 0, 0, Wall.control(8, 5, Wall.b(1))))));
        Wall.due("CONTROL behind SIX with ROUTE between", w.x.sum(0, 3), Wall.sumOf(Wall.control(8, 5, Wall.b(1))));
    }

    private static void repairEdges() {
        Wall w = Wall.fresh().packet(0, Wall.link(4, Wall.four(1, 1, 2, Wall.control(3, 0, Wall.four(17, 3, 4, Wall.datagram(1, 2, Wall.b(5)))))));
        Wall.due("four sums, the last one first", w.x.repair(0), 4);
        Wall.due("all are right", w.x.repair(0), 0);
        int[] inner = Wall.four(17, 3, 4, Wall.datagram(1, 2, Wall.b(5)));
        Wall.due("the outer one is of the inner ones as they are then", w.x.sum(0, 2), w.x.field(0, 2, 2));
        Wall.due("it is not of those before", w.x.field(0, 2, 2) != Wall.sumOf(Wall.control(3, 0, inner)) ? 1 : 0, 1);
        w.x.set(0, 14, w.x.at(0, 14) ^ 1);
        Wall.due("one became another", w.x.repair(0), 1);
        w.packet(0);
        Wall.due("no header", w.x.repair(0), 0);
        w.packet(0, Wall.link(4, Wall.with(Wall.four(99, 1, 2, NO_BYTES), 3, 21)));
        int was = w.x.at(0, 14);
        Wall.due("the one with the finding stays", w.x.repair(0), 0);
        Wall.due("as it was", w.x.at(0, 14), was);
    }
}
