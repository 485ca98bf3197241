import java.util.Arrays;
import java.util.function.Consumer;
import java.util.function.ToLongFunction;

/** What the tests share: a wall with helpers to fill its tape, packets of the twelve kinds, and a count of wrong answers. */
final class Wall {
    static final int SYN = 2, FIN = 1, RST = 4, ACK = 16;

    private static int wrong;

    final PacketWall x = new PacketWall();

    static void due(String what, long got, long want) {
        if (got != want) {
            wrong++;
            System.out.println(what + " answered " + got + ", due is " + want);
        }
    }

    static void finish() {
        if (wrong != 0) {
            System.out.println(wrong + " answers are not as due");
            System.exit(1);
        }
    }

    // ---- refused calls

    /**
     * A call that is refused behind some others: its answer, and that nothing changed, which is seen by a second
     * wall that did not meet the call. Both are asked far fewer than the 512 calls that an object is for.
     */
    static void refused(String what, Consumer<Wall> before, ToLongFunction<PacketWall> call, long answer) {
        Wall asked = fresh();
        Wall left = fresh();
        before.accept(asked);
        before.accept(left);
        due(what, call.applyAsLong(asked.x), answer);
        sameView(what, asked, left);
    }

    static void sameView(String what, Wall one, Wall other) {
        long[] got = one.view();
        long[] want = other.view();
        for (int i = 0; i < want.length; i++) {
            due(what + ": nothing changes, view " + i, got[i], want[i]);
        }
    }

    /** All that can be asked of a wall without changing it, but for what needs many calls: then a part of it. */
    private long[] view() {
        long[] seen = new long[400];
        int n = 0;
        for (int what = 0; what <= 8; what++) {
            seen[n++] = x.told(what);
        }
        for (int i : new int[] {0, 1, 2, 399, 400, x.told(7) - 1, x.told(7)}) {
            seen[n++] = x.tape(i);
        }
        for (int p = 0; p < 24; p++) {
            seen[n++] = x.at(p, PacketWall.NONE);
            seen[n++] = x.digest(p);
        }
        for (int p = 0; p < 3; p++) {
            seen[n++] = x.mark(p);
        }
        for (int what = 0; what <= 4; what++) {
            seen[n++] = x.finding(what);
            seen[n++] = x.gathered(what);
            seen[n++] = x.why(what);
            seen[n++] = x.why(10 + what);
            seen[n++] = x.logged(what);
        }
        seen[n++] = x.wrong();
        for (int k = 0; k < 8; k++) {
            seen[n++] = x.counter(k);
            seen[n++] = x.rowAt(k, PacketWall.NONE);
            seen[n++] = x.rowAt(k, 0);
            seen[n++] = x.rowAt(k, 1);
        }
        for (int k = 0; k < 4; k++) {
            seen[n++] = x.has(k);
            seen[n++] = x.learned(k, PacketWall.NONE);
            seen[n++] = x.learned(k, 0);
        }
        for (int f = 0; f < 24; f++) {
            seen[n++] = x.flow(f, 4);
        }
        for (int f = 0; f < 2; f++) {
            for (int what = 0; what <= 10; what++) {
                seen[n++] = x.flow(f, what);
            }
            for (int what = 0; what <= 5; what++) {
                seen[n++] = x.flowed(f, what);
            }
        }
        return seen;
    }

    // ---- the tape

    /** The tape becomes these bytes. */
    Wall tape(int... bytes) {
        if (bytes.length > 1600) {
            throw new IllegalArgumentException("no tape has " + bytes.length + " bytes");
        }
        x.end(0);
        int[] padded = Arrays.copyOf(bytes, (bytes.length + 19) / 20 * 20);
        for (int i = 0; i < padded.length; i += 20) {
            x.feed(word(padded, i), word(padded, i + 4), word(padded, i + 8), word(padded, i + 12), word(padded, i + 16));
        }
        x.end(bytes.length);
        return this;
    }

    Wall packet(int p, int... bytes) {
        tape(bytes);
        due("packet of " + bytes.length, x.packet(p), bytes.length);
        return this;
    }

    int rules(String text) {
        tape(text.chars().toArray());
        return x.rules();
    }

    /** Rules that must be taken, then a verdict of packet 0. */
    int judge(String text) {
        due("rules " + text, Math.min(rules(text), 1), 1);
        return x.verdict(0);
    }

    /** Rules that must be taken, on a new wall. */
    static void rightText(String text, int chains, int nodes) {
        Wall w = fresh();
        due(text, w.rules(text), chains);
        due(text + ": wrong", w.x.wrong(), PacketWall.NONE);
        due(text + ": chains", w.x.told(4), chains);
        due(text + ": nodes", w.x.told(5), nodes);
        due(text + ": the tape", w.x.told(7), 0);
    }

    /** Rules with a fault, on a new wall: it stands where the sign ^ does in the text, which is left out. */
    static void wrongText(String marked, int fault) {
        int at = marked.indexOf('^');
        String text = marked.substring(0, at) + marked.substring(at + 1);
        Wall w = fresh();
        due(marked, w.rules(text), -10 - fault);
        due(marked + ": wrong", w.x.wrong(), at);
        due(marked + ": no rules", w.x.verdict(0), PacketWall.STATE);
        due(marked + ": no chains", w.x.told(4), 0);
        due(marked + ": no nodes", w.x.told(5), 0);
        due(marked + ": the tape", w.x.told(7), 0);
    }

    int[] wholeTape() {
        int[] bytes = new int[x.told(7)];
        for (int i = 0; i < bytes.length; i++) {
            bytes[i] = x.tape(i);
        }
        return bytes;
    }

    int[] wholePacket(int p) {
        int[] bytes = new int[x.at(p, -1)];
        for (int i = 0; i < bytes.length; i++) {
            bytes[i] = x.at(p, i);
        }
        return bytes;
    }

    private static int word(int[] bytes, int at) {
        return bytes[at] << 24 | bytes[at + 1] << 16 | bytes[at + 2] << 8 | bytes[at + 3];
    }

    // ---- bytes

    static int[] join(int[]... parts) {
        return Arrays.stream(parts).flatMapToInt(Arrays::stream).toArray();
    }

    static int[] b(int... bytes) {
        return bytes;
    }

    static int[] number(long value, int bytes) {
        int[] made = new int[bytes];
        for (int i = 0; i < bytes; i++) {
            made[bytes - 1 - i] = (int) (value >>> (8 * i)) & 255;
        }
        return made;
    }

    static int[] two(long value) {
        return number(value, 2);
    }

    /** n bytes that count up from one. */
    static int[] run(int n) {
        int[] made = new int[n];
        for (int i = 0; i < n; i++) {
            made[i] = (i + 1) & 255;
        }
        return made;
    }

    static int[] with(int[] bytes, int at, int value) {
        int[] made = bytes.clone();
        made[at] = value;
        return made;
    }

    static int sumOf(int[] bytes) {
        long added = 0;
        for (int i = 0; i < bytes.length; i++) {
            added += i % 2 == 0 ? bytes[i] << 8 : bytes[i];
        }
        while (added >> 16 != 0) {
            added = (added & 65535) + (added >> 16);
        }
        return (int) ~added & 65535;
    }

    // ---- headers

    static int[] link(int kind, int[] body) {
        return join(b(1, 2), two(kind), body);
    }

    static int[] tag(int rank, int id, int kind, int[] body) {
        return join(two(rank << 12 | id), two(kind), body);
    }

    static int[] four(int next, long from, long to, int[] body) {
        return fourPiece(next, 7, 0, 0, from, to, body);
    }

    static int[] fourPiece(int next, int number, int flags, int offset, long from, long to, int[] body) {
        return join(b(0x45, 3), two(20 + body.length), two(number), two(flags << 13 | offset), b(64, next), two(0),
                number(from, 4), number(to, 4), body);
    }

    static int[] six(int next, long from, long to, int[] body) {
        return join(b(0x60, 3), two(body.length), b(next, 64), two(5), number(from, 8), number(to, 8), body);
    }

    static int[] hops(int next, int n, int[] body) {
        return join(b(next, n), run(8 * n + 6), body);
    }

    static int[] route(int next, int n, int left, int[] body) {
        return join(b(next, n, left), run(8 * n + 5), body);
    }

    static int[] part(int next, int offset, int more, long number, int[] body) {
        return join(b(next, 0), two(offset << 3 | more), number(number, 4), body);
    }

    static int[] control(int type, long rest, int[] body) {
        return join(b(type, 0), two(0), number(rest, 4), body);
    }

    static int[] stream(int from, int to, long sequence, int flags, int window, int[] body) {
        return join(two(from), two(to), number(sequence, 4), number(0, 4), b(0x50, flags), two(window), two(0), two(0), body);
    }

    static int[] datagram(int from, int to, int[] body) {
        return join(two(from), two(to), two(8 + body.length), two(0), body);
    }

    static int[] tunnel(int flags, int kind, int[] body) {
        return join(two(flags), two(kind), body);
    }

    /** A stream's packet from 10 to 11, or back, with ports 1000 and 80. */
    static int[] streamPacket(int side, long sequence, int flags, int window, int data) {
        int[] body = side == 0 ? stream(1000, 80, sequence, flags, window, run(data)) : stream(80, 1000, sequence, flags, window, run(data));
        return link(4, side == 0 ? four(6, 10, 11, body) : four(6, 11, 10, body));
    }

    static int[] datagramPacket(long from, int fromPort, long to, int toPort) {
        return link(4, four(17, from, to, datagram(fromPort, toPort, b(9))));
    }

    private Wall() {
    }

    static Wall fresh() {
        return new Wall();
    }
}
