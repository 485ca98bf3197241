/**
 * A packet wall: packets as rows of bytes, their headers, sums, pieces, flows, rules and a table of flows.
 * Every row that a call needs is made once, in a constructor, so that calls make no objects at all.
 */
public final class PacketWall {
    public static final int NONE = -1, UNKNOWN = -2, OUTSIDE = -3, STATE = -4, ROOM = -5, NOT_BEGUN = -6, REFUSED = -7, OUT = -8;

    private static final int MOST_TAPE = 1600, FEED_BYTES = 20, MOST_PACKETS = 24, MOST_BYTES = 400;
    private static final int MOST_GATHERINGS = 8, MOST_ROW = 360, GATHERING_LIFE = 30;
    private static final int MOST_TICKS = 1000, BUCKETS = 4, MOST_BUCKET = 1000, SETS = 4, SET_ITEMS = 16;
    private static final int COUNTERS = 8, LOG_ITEMS = 20, ROWS = 8, FINDING_LESS = -10;

    private static final int LINK = 0, TAG = 1, FOUR = 2, SIX = 3, HOPS = 4, ROUTE = 5, PART = 6, CONTROL = 7;
    private static final int STREAM = 8, DATAGRAM = 9, TUNNEL = 10, REST = 11, NET = 12, CARRIED = 13;

    private static final long DIGEST_START = -3750763034362895579L, DIGEST_TIMES = 1099511628211L;
    private static final long LOW_32 = 0xffffffffL;

    private final int[] tape = new int[MOST_TAPE];
    private int tapeLength;
    private final Packet[] packets = new Packet[MOST_PACKETS];
    private final Headers headers = new Headers();
    private final int[] found = {0, NONE, NONE, NONE};
    private final Gathering[] gatherings = new Gathering[MOST_GATHERINGS];
    private final Gathering sought = new Gathering();
    private final int[] latestPiece = {NONE, NONE, NONE, NONE, NONE};
    private int time;
    private final Flows flows = new Flows();
    private final Parser parser = new Parser();
    private final Machine machine = new Machine();
    private final int[] bucketSizes = new int[BUCKETS];
    private final int[] bucketEvery = new int[BUCKETS];
    private final int[] bucketSince = new int[BUCKETS];

    public PacketWall() {
        for (int p = 0; p < MOST_PACKETS; p++) {
            packets[p] = new Packet();
        }
        for (int g = 0; g < MOST_GATHERINGS; g++) {
            gatherings[g] = new Gathering();
        }
    }

    // ---- the tape, packets

    public int feed(int a, int b, int c, int d, int e) {
        if (tapeLength + FEED_BYTES > MOST_TAPE) {
            return ROOM;
        }
        feedFour(a);
        feedFour(b);
        feedFour(c);
        feedFour(d);
        feedFour(e);
        return tapeLength;
    }

    public int end(int n) {
        if (n < 0 || n > tapeLength) {
            return OUTSIDE;
        }
        tapeLength = n;
        return n;
    }

    public int packet(int p) {
        if (p < 0 || p >= MOST_PACKETS || tapeLength > MOST_BYTES) {
            return OUTSIDE;
        }
        Packet it = packets[p];
        System.arraycopy(tape, 0, it.bytes, 0, tapeLength);
        it.length = tapeLength;
        it.label = 0;
        tapeLength = 0;
        return it.length;
    }

    public int drop(int p) {
        if (p < 0 || p >= MOST_PACKETS) {
            return OUTSIDE;
        }
        int was = packets[p].isThere() ? 1 : 0;
        packets[p].length = NONE;
        packets[p].label = 0;
        return was;
    }

    public int at(int p, int i) {
        if (!isPacket(p)) {
            return UNKNOWN;
        }
        if (i == NONE) {
            return packets[p].length;
        }
        return packets[p].hasByte(i) ? packets[p].byteAt(i) : NONE;
    }

    // ---- headers, findings, sums

    public int read(int p) {
        if (p < 0 || p >= MOST_PACKETS) {
            return OUTSIDE;
        }
        headers.readAll(packets[p]);
        found[0] = headers.finding;
        found[1] = headers.count;
        found[2] = headers.foundAt;
        found[3] = headers.foundKind;
        return headers.finding == 0 ? headers.count : FINDING_LESS - headers.finding;
    }

    public int finding(int what) {
        return what < 0 || what >= found.length ? OUTSIDE : found[what];
    }

    public int kind(int p, int h) {
        if (!isPacket(p)) {
            return UNKNOWN;
        }
        headers.readAll(packets[p]);
        return headers.kindAt(h);
    }

    public long field(int p, int h, int f) {
        if (!isPacket(p)) {
            return UNKNOWN;
        }
        headers.readAll(packets[p]);
        return headers.valueOf(h, f);
    }

    public int place(int p, int h) {
        if (!isPacket(p)) {
            return UNKNOWN;
        }
        headers.readAll(packets[p]);
        return headers.placeAt(h);
    }

    public int carried(int p, int h, int n) {
        if (!isPacket(p)) {
            return UNKNOWN;
        }
        headers.readAll(packets[p]);
        if (h < 0 || n < 0 || h > headers.count || n > headers.count - h) {
            return OUTSIDE;
        }
        int went = 0;
        while (went < n && isCarriedKind(headers.kindAt(h + went))) {
            went++;
        }
        return went;
    }

    public int sum(int p, int h) {
        if (!isPacket(p)) {
            return UNKNOWN;
        }
        headers.readAll(packets[p]);
        return headers.dueSum(h);
    }

    public int repair(int p) {
        if (!isPacket(p)) {
            return UNKNOWN;
        }
        headers.readAll(packets[p]);
        int others = 0;
        for (int h = headers.count - 1; h >= 0; h--) {
            if (headers.mend(h)) {
                others++;
            }
        }
        return others;
    }

    public int set(int p, int i, int v) {
        if (!isPacket(p)) {
            return UNKNOWN;
        }
        if (!packets[p].hasByte(i) || v < 0 || v > 255) {
            return OUTSIDE;
        }
        int was = packets[p].byteAt(i);
        packets[p].bytes[i] = v;
        return was;
    }

    public long digest(int p) {
        if (!isPacket(p)) {
            return 0;
        }
        long d = DIGEST_START;
        for (int i = 0; i < packets[p].length; i++) {
            d = (d ^ packets[p].byteAt(i)) * DIGEST_TIMES;
        }
        return d;
    }

    // ---- pieces, time

    public int gather(int p) {
        if (!isPacket(p)) {
            return UNKNOWN;
        }
        headers.readAll(packets[p]);
        int piece = headers.pieceHeader();
        if (piece == NONE) {
            return STATE;
        }
        sought.nameBy(headers, piece);
        int g = soughtGathering();
        boolean first = g == NONE || gatherings[g].whole == NONE;
        if (isRefusedPiece(piece, first)) {
            return STATE;
        }
        if (g == NONE) {
            g = freeGathering();
            if (g == NONE) {
                return ROOM;
            }
            gatherings[g].beginAs(sought, time + GATHERING_LIFE);
        }
        gatherings[g].takeIn(headers, piece, latestPiece);
        return gatherings[g].isReady() ? putTogether(gatherings[g]) : NONE;
    }

    public int gathered(int what) {
        return what < 0 || what >= latestPiece.length ? OUTSIDE : latestPiece[what];
    }

    public int tick(int n) {
        if (n < 1 || n > MOST_TICKS) {
            return OUTSIDE;
        }
        int before = time;
        time += n;
        for (int g = 0; g < MOST_GATHERINGS; g++) {
            if (gatherings[g].until <= time) {
                gatherings[g].live = false;
            }
        }
        flows.age(time);
        for (int k = 0; k < BUCKETS; k++) {
            fillBucket(k, before);
        }
        return time;
    }

    // ---- flows

    public int track(int p) {
        if (!isPacket(p)) {
            return UNKNOWN;
        }
        headers.readAll(packets[p]);
        return flows.passThrough(headers, time);
    }

    public int flow(int f, int what) {
        if (!flows.isLive(f)) {
            return UNKNOWN;
        }
        return flows.all[f].figure(what, time);
    }

    public long flowed(int f, int what) {
        return flows.isLive(f) ? flows.all[f].longFigure(what) : NONE;
    }

    public int close(int f) {
        if (!flows.isLive(f)) {
            return UNKNOWN;
        }
        flows.all[f].live = false;
        return 1;
    }

    public int pool(int k, int address, int port, int n) {
        return flows.layPool(k, address & LOW_32, port, n);
    }

    public int change(int f, int k) {
        if (!flows.isLive(f)) {
            return UNKNOWN;
        }
        return flows.changeBy(flows.all[f], k);
    }

    public int turn(int p) {
        if (!isPacket(p)) {
            return UNKNOWN;
        }
        headers.readAll(packets[p]);
        return flows.rewrite(headers);
    }

    // ---- rules

    public int rules() {
        parser.begin(tape, tapeLength);
        tapeLength = 0;
        for (int c = 0; c <= Program.MOST_CHAINS && parser.hasMore(c); c++) {
            parser.chain();
        }
        parser.resolveJumps();
        if (parser.fault != 0) {
            return FINDING_LESS - parser.fault;
        }
        Program old = machine.program;
        machine.program = parser.program;
        parser.program = old;
        return machine.program.chains;
    }

    public int wrong() {
        return parser.faultAt;
    }

    public int verdict(int p) {
        if (p < 0 || p >= MOST_PACKETS) {
            return OUTSIDE;
        }
        if (machine.program.chains == 0 || machine.hasNoFailureLeft()) {
            return STATE;
        }
        headers.readAll(packets[p]);
        int f = flows.flowOf(headers);
        return machine.judge(headers, f, flows.stateOf(f), time);
    }

    public int why(int what) {
        return machine.reported(what);
    }

    public long counter(int k) {
        return k < 0 || k >= COUNTERS ? NONE : machine.memory.counters[k];
    }

    public long logged(int i) {
        return machine.memory.logItem(i);
    }

    public long learned(int k, int i) {
        if (k < 0 || k >= SETS) {
            return NONE;
        }
        return i == NONE ? machine.memory.setSizes[k] : machine.memory.setItem(k, i);
    }

    public int bucket(int k, int size, int every) {
        if (k < 0 || k >= BUCKETS || size < 0 || size > MOST_BUCKET || every < 1 || every > MOST_TICKS) {
            return OUTSIDE;
        }
        bucketSizes[k] = size;
        bucketEvery[k] = every;
        bucketSince[k] = time;
        machine.memory.buckets[k] = size;
        return size;
    }

    public int has(int k) {
        return k < 0 || k >= BUCKETS ? OUTSIDE : machine.memory.buckets[k];
    }

    public long rowAt(int k, int i) {
        if (k < 0 || k >= ROWS) {
            return OUTSIDE;
        }
        Row row = machine.rows[k];
        if (i == NONE) {
            return row.sort;
        }
        return row.hasItem(i) ? row.items[i] : NONE;
    }

    public long mark(int p) {
        return isPacket(p) ? packets[p].label : 0;
    }

    // ---- the table

    public int export() {
        tapeLength = flows.layTable(tape, time);
        return tapeLength;
    }

    public int restore() {
        int length = tapeLength;
        tapeLength = 0;
        return flows.readTable(tape, length, time);
    }

    public int tape(int i) {
        return i < 0 || i >= tapeLength ? NONE : tape[i];
    }

    public int told(int what) {
        switch (what) {
            case 0: return time;
            case 1: return countPackets();
            case 2: return countGatherings();
            case 3: return flows.countLive();
            case 4: return machine.program.chains;
            case 5: return machine.program.nodes;
            case 6: return machine.failures;
            case 7: return tapeLength;
            case 8: return machine.memory.logCount;
            default: return OUTSIDE;
        }
    }

    // ---- what the calls share

    private void feedFour(int four) {
        putNumber(tape, tapeLength, 4, four);
        tapeLength += 4;
    }

    private boolean isPacket(int p) {
        return p >= 0 && p < MOST_PACKETS && packets[p].isThere();
    }

    private int countPackets() {
        int n = 0;
        for (int p = 0; p < MOST_PACKETS; p++) {
            n += packets[p].isThere() ? 1 : 0;
        }
        return n;
    }

    private int countGatherings() {
        int n = 0;
        for (int g = 0; g < MOST_GATHERINGS; g++) {
            n += gatherings[g].live ? 1 : 0;
        }
        return n;
    }

    private int soughtGathering() {
        for (int g = 0; g < MOST_GATHERINGS; g++) {
            if (gatherings[g].live && gatherings[g].isNamedLike(sought)) {
                return g;
            }
        }
        return NONE;
    }

    private int freeGathering() {
        for (int g = 0; g < MOST_GATHERINGS; g++) {
            if (!gatherings[g].live) {
                return g;
            }
        }
        return NONE;
    }

    private boolean isRefusedPiece(int piece, boolean first) {
        int data = headers.dataBehind(piece);
        if (data <= 0) {
            return true;
        }
        if (headers.isMoreToCome(piece)) {
            return data % 8 != 0;
        }
        return first && headers.offsetOf(piece) + data > MOST_ROW;
    }

    private int putTogether(Gathering g) {
        int free = NONE;
        for (int p = MOST_PACKETS - 1; p >= 0; p--) {
            if (!packets[p].isThere()) {
                free = p;
            }
        }
        if (free == NONE || g.packetLength() > MOST_BYTES) {
            return ROOM;
        }
        g.makePacket(packets[free]);
        g.live = false;
        return free;
    }

    private void fillBucket(int k, int before) {
        int every = bucketEvery[k];
        if (every < 1) {
            return;
        }
        int came = (time - bucketSince[k]) / every - (before - bucketSince[k]) / every;
        machine.memory.buckets[k] = Math.min(bucketSizes[k], machine.memory.buckets[k] + came);
    }

    private static boolean isNetKind(int kind) {
        return kind == FOUR || kind == SIX;
    }

    private static boolean isCarriedKind(int kind) {
        return kind == CONTROL || kind == STREAM || kind == DATAGRAM;
    }

    /** Bytes highest first, as a number; a byte beyond the row counts as 0. */
    private static long numberAt(int[] bytes, int at, int count) {
        long number = 0;
        for (int i = at; i < at + count; i++) {
            number = number << 8 | (i >= 0 && i < bytes.length ? bytes[i] : 0);
        }
        return number;
    }

    private static void putNumber(int[] bytes, int at, int count, long number) {
        for (int i = 0; i < count; i++) {
            int to = at + count - 1 - i;
            if (to >= 0 && to < bytes.length) {
                bytes[to] = (int) (number >>> (8 * i)) & 255;
            }
        }
    }

    private static long addedTwos(int[] bytes, int from, int to) {
        long added = 0;
        for (int i = from; i < to; i += 2) {
            added += i + 1 < to ? numberAt(bytes, i, 2) : numberAt(bytes, i, 1) << 8;
        }
        return added;
    }

    private static int foldedSum(long added) {
        long rest = added;
        for (int n = 0; n < 8 && rest > 65535; n++) {
            rest = (rest & 65535) + (rest >>> 16);
        }
        return (int) ~rest & 65535;
    }

    /** A packet's bytes; its length is NONE while it is NOTHING. */
    private static final class Packet {
        final int[] bytes = new int[MOST_BYTES];
        int length = NONE;
        long label;

        boolean isThere() {
            return length != NONE;
        }

        boolean hasByte(long i) {
            return i >= 0 && i < length;
        }

        int byteAt(int i) {
            return i >= 0 && i < length ? bytes[i] : 0;
        }

        long numberFrom(int i, int count) {
            return numberAt(bytes, i, count);
        }
    }

    /** The headers of one packet, as its bytes are at the time of readAll. */
    private static final class Headers {
        static final int MOST = 12, MOST_FIELDS = 11;
        static final int CUT = 1, NOTHING = 2, WRONG = 3, SIZE = 4, TOLD = 5, DEEP = 6;
        static final int FOUR_NUMBER = 3, FOUR_FLAGS = 4, FOUR_OFFSET = 5, FOUR_NEXT = 7, FOUR_FROM = 9, SIX_FROM = 5;
        static final int PART_NEXT = 0, PART_OFFSET = 1, PART_MORE = 2, PART_NUMBER = 3;

        /** Of each field: the byte where it begins, how many bytes, how far to shift, how many bits. */
        static final int[] FORMS = {
            0, 1, 0, 8, 1, 1, 0, 8, 2, 2, 0, 16, // LINK
            0, 2, 12, 4, 0, 2, 0, 12, 2, 2, 0, 16, // TAG
            0, 1, 0, 4, 1, 1, 0, 8, 2, 2, 0, 16, 4, 2, 0, 16, 6, 2, 13, 3, 6, 2, 0, 13, // FOUR
            8, 1, 0, 8, 9, 1, 0, 8, 10, 2, 0, 16, 12, 4, 0, 32, 16, 4, 0, 32,
            1, 1, 0, 8, 2, 2, 0, 16, 4, 1, 0, 8, 5, 1, 0, 8, 6, 2, 0, 16, 8, 8, 0, 64, 16, 8, 0, 64, // SIX
            0, 1, 0, 8, 1, 1, 0, 8, // HOPS
            0, 1, 0, 8, 1, 1, 0, 8, 2, 1, 0, 8, // ROUTE
            0, 1, 0, 8, 2, 2, 3, 13, 2, 2, 0, 1, 4, 4, 0, 32, // PART
            0, 1, 0, 8, 1, 1, 0, 8, 2, 2, 0, 16, 4, 4, 0, 32, // CONTROL
            0, 2, 0, 16, 2, 2, 0, 16, 4, 4, 0, 32, 8, 4, 0, 32, 12, 1, 4, 4, 13, 1, 0, 8, 14, 2, 0, 16, 16, 2, 0, 16, // STREAM
            0, 2, 0, 16, 2, 2, 0, 16, 4, 2, 0, 16, 6, 2, 0, 16, // DATAGRAM
            0, 2, 0, 16, 2, 2, 0, 16 // TUNNEL
        };
        /** The number of each kind's first field in FORMS, and how many fields it has (REST's one field is no bytes). */
        static final int[] FIRST_FORM = {0, 3, 6, 17, 24, 26, 29, 33, 37, 45, 49, 51};
        static final int[] FIELD_COUNTS = {3, 3, 11, 7, 2, 3, 4, 4, 8, 4, 2, 1};
        /** Bytes that each kind has at least. */
        static final int[] LEAST = {4, 4, 20, 24, 2, 2, 8, 8, 20, 8, 4, 1};
        /** The fields of FOUR and of SIX that are mark, life, next, from, to of net. */
        static final int[] NET_IN_FOUR = {1, 6, 7, 9, 10};
        static final int[] NET_IN_SIX = {0, 3, 2, 5, 6};

        final int[] kinds = new int[MOST];
        final int[] places = new int[MOST];
        final int[] sizes = new int[MOST];
        int count;
        int finding;
        int foundAt;
        int foundKind;
        Packet source = new Packet();

        void readAll(Packet packet) {
            source = packet;
            count = 0;
            finding = 0;
            foundAt = NONE;
            foundKind = NONE;
            if (!packet.isThere()) {
                finding = NOTHING;
                return;
            }
            int kind = LINK;
            int at = 0;
            for (int n = 0; n <= MOST && finding == 0 && kind != NONE; n++) {
                int size = sizeIfRight(kind, at);
                if (finding == 0) {
                    kinds[count] = kind;
                    places[count] = at;
                    sizes[count] = size;
                    count++;
                    kind = kindBehind(kind, at, at + size);
                    at += size;
                }
            }
        }

        boolean hasHeader(int h) {
            return h >= 0 && h < count;
        }

        int kindAt(int h) {
            return h >= 0 && h < count ? kinds[h] : NONE;
        }

        int placeAt(int h) {
            return h >= 0 && h < count ? places[h] : NONE;
        }

        static int fieldCount(int kind) {
            return kind >= 0 && kind < FIELD_COUNTS.length ? FIELD_COUNTS[kind] : 0;
        }

        long valueOf(int h, int f) {
            int kind = kindAt(h);
            if (f < 0 || f >= fieldCount(kind)) {
                return NONE;
            }
            if (kind == REST) {
                return sizes[h];
            }
            int form = 4 * (FIRST_FORM[kind] + f);
            long raw = numberAt(source.bytes, places[h] + FORMS[form], FORMS[form + 1]);
            int bits = FORMS[form + 3];
            return bits >= 64 ? raw : raw >>> FORMS[form + 2] & (1L << bits) - 1;
        }

        /** The first header of a kind, where NET and CARRIED are kinds too. */
        int firstOf(int kind) {
            for (int h = 0; h < count; h++) {
                if (kinds[h] == kind || kind == NET && isNetKind(kinds[h]) || kind == CARRIED && isCarriedKind(kinds[h])) {
                    return h;
                }
            }
            return NONE;
        }

        /** A field as the rules name it: f counts the words that its kind, or net, or carried has. */
        long ruleValue(int h, int kind, int f) {
            if (kind == CARRIED) {
                return source.numberFrom(places[h] + sumOffset(kinds[h]), 2);
            }
            if (kind == NET && f >= 0 && f < NET_IN_SIX.length) {
                return valueOf(h, kindAt(h) == FOUR ? NET_IN_FOUR[f] : NET_IN_SIX[f]);
            }
            return valueOf(h, f);
        }

        long addressOf(int net, int side) {
            int first = kindAt(net) == FOUR ? FOUR_FROM : SIX_FROM;
            return valueOf(net, first + side);
        }

        /** The header behind a net, with nothing but HOPS and ROUTE between. */
        int innerOf(int net) {
            int h = net + 1;
            while (h < count && (kinds[h] == HOPS || kinds[h] == ROUTE)) {
                h++;
            }
            return h < count ? h : NONE;
        }

        int pieceHeader() {
            int net = firstOf(NET);
            if (finding != 0 || net == NONE) {
                return NONE;
            }
            if (kinds[net] == FOUR) {
                return isMoreToCome(net) || offsetOf(net) > 0 ? net : NONE;
            }
            int inner = innerOf(net);
            return kindAt(inner) == PART ? inner : NONE;
        }

        boolean isMoreToCome(int piece) {
            long bits = kindAt(piece) == FOUR ? valueOf(piece, FOUR_FLAGS) : valueOf(piece, PART_MORE);
            return (bits & 1) != 0;
        }

        int offsetOf(int piece) {
            return 8 * (int) valueOf(piece, kindAt(piece) == FOUR ? FOUR_OFFSET : PART_OFFSET);
        }

        int endOf(int h) {
            return hasHeader(h) ? places[h] + sizes[h] : 0;
        }

        int dataBehind(int h) {
            return source.length - endOf(h);
        }

        int dueSum(int h) {
            int kind = kindAt(h);
            if (kind != FOUR && !isCarriedKind(kind)) {
                return NONE;
            }
            int at = places[h];
            int until = kind == FOUR ? endOf(h) : source.length;
            long added = addedTwos(source.bytes, at, until) - source.numberFrom(at + sumOffset(kind), 2);
            if (kind == STREAM || kind == DATAGRAM) {
                int net = nearestNet(h);
                if (net == NONE) {
                    return NONE;
                }
                added += addressTwos(net) + (until - at) + (kind == STREAM ? 6 : 17);
            }
            int due = foldedSum(added);
            return kind == DATAGRAM && due == 0 ? 65535 : due;
        }

        /** Puts the due sum into a header: whether it became another one. */
        boolean mend(int h) {
            int due = dueSum(h);
            if (due == NONE) {
                return false;
            }
            int at = places[h] + sumOffset(kinds[h]);
            long was = source.numberFrom(at, 2);
            putNumber(source.bytes, at, 2, due);
            return was != due;
        }

        private int nearestNet(int h) {
            for (int ahead = h - 1; ahead >= 0; ahead--) {
                if (isNetKind(kinds[ahead])) {
                    return ahead;
                }
            }
            return NONE;
        }

        private long addressTwos(int net) {
            int from = places[net] + (kinds[net] == FOUR ? 12 : 8);
            return addedTwos(source.bytes, from, from + (kinds[net] == FOUR ? 8 : 16));
        }

        private static int sumOffset(int kind) {
            switch (kind) {
                case FOUR: return 10;
                case CONTROL: return 2;
                case STREAM: return 16;
                default: return 6;
            }
        }

        private void find(int what, int at, int kind) {
            finding = what;
            foundAt = at;
            foundKind = kind;
        }

        private boolean isCut(int kind, int until) {
            if (until > source.length) {
                find(CUT, source.length, kind);
            }
            return finding != 0;
        }

        /** A header's bytes, asked in the order in which findings count; without meaning behind a finding. */
        private int sizeIfRight(int kind, int at) {
            if (count >= MOST) {
                find(DEEP, at, kind);
                return 0;
            }
            if (isMisplaced(kind)) {
                find(WRONG, at, kind);
                return 0;
            }
            if (isNetKind(kind) && isOtherVersion(kind, at)) {
                return 0;
            }
            if (isCut(kind, at + LEAST[kind])) {
                return 0;
            }
            int size = fullSize(kind, at);
            if ((kind == FOUR || kind == STREAM) && size < 20) {
                find(SIZE, kind == FOUR ? at : at + 12, kind);
                return 0;
            }
            if (isCut(kind, at + size)) {
                return 0;
            }
            checkTold(kind, at);
            return size;
        }

        private boolean isMisplaced(int kind) {
            int before = kindAt(count - 1);
            if (kind == HOPS) {
                return before != SIX;
            }
            return (kind == PART || kind == ROUTE) && before != SIX && before != HOPS && before != ROUTE;
        }

        private boolean isOtherVersion(int kind, int at) {
            if (isCut(kind, at + 1)) {
                return true;
            }
            if (source.byteAt(at) >> 4 != (kind == FOUR ? 4 : 6)) {
                find(WRONG, at, kind);
            }
            return finding != 0;
        }

        private int fullSize(int kind, int at) {
            switch (kind) {
                case FOUR: return 4 * (source.byteAt(at) & 15);
                case STREAM: return 4 * (source.byteAt(at + 12) >> 4);
                case HOPS:
                case ROUTE: return 8 * source.byteAt(at + 1) + 8;
                case REST: return source.length - at;
                default: return LEAST[kind];
            }
        }

        private void checkTold(int kind, int at) {
            int left = source.length - at;
            if (kind == FOUR && source.numberFrom(at + 2, 2) != left) {
                find(TOLD, at + 2, kind);
            } else if (kind == SIX && source.numberFrom(at + 2, 2) != left - 24) {
                find(TOLD, at + 2, kind);
            } else if (kind == DATAGRAM && source.numberFrom(at + 4, 2) != left) {
                find(TOLD, at + 4, kind);
            }
        }

        /** The kind of the header that follows one; NONE where the headers end. */
        private int kindBehind(int kind, int at, int behind) {
            int told = toldKind(kind, at, behind);
            return told == REST && behind >= source.length ? NONE : told;
        }

        private int toldKind(int kind, int at, int behind) {
            switch (kind) {
                case LINK:
                case TAG:
                case TUNNEL:
                    return kindOfLink((int) source.numberFrom(at + 2, 2));
                case FOUR:
                    return (source.numberFrom(at + 6, 2) & 0x1fff) != 0 ? REST : kindOfNext(source.byteAt(at + 9), false);
                case SIX:
                    return kindOfNext(source.byteAt(at + 4), true);
                case HOPS:
                case ROUTE:
                    return kindOfNext(source.byteAt(at), true);
                case PART:
                    return source.numberFrom(at + 2, 2) >> 3 != 0 ? REST : kindOfNext(source.byteAt(at), true);
                case CONTROL:
                    return quotedKind(source.byteAt(at), behind);
                default:
                    return REST;
            }
        }

        private static int kindOfLink(int told) {
            switch (told) {
                case 4: return FOUR;
                case 6: return SIX;
                case 9: return TAG;
                default: return REST;
            }
        }

        private static int kindOfNext(int next, boolean extras) {
            switch (next) {
                case 1: return CONTROL;
                case 6: return STREAM;
                case 17: return DATAGRAM;
                case 47: return TUNNEL;
                case 4: return FOUR;
                case 41: return SIX;
                case 0: return extras ? HOPS : REST;
                case 43: return extras ? ROUTE : REST;
                case 44: return extras ? PART : REST;
                default: return REST;
            }
        }

        private int quotedKind(int type, int behind) {
            if (type != 3 && type != 11) {
                return REST;
            }
            int version = source.byteAt(behind) >> 4;
            return version == 4 ? FOUR : version == 6 ? SIX : REST;
        }
    }

    /** What came of one packet that was sent in pieces. */
    private static final class Gathering {
        static final int FRESH = 0, OVER = 1, BEYOND = 2, ROW_BYTES = 3, WHOLE = 4;

        boolean live;
        int kind;
        long from;
        long to;
        long number;
        long next;
        int until;
        int whole = NONE;
        int came;
        final int[] row = new int[MOST_ROW];
        final int[] kept = new int[MOST_BYTES];
        int keptLength = NONE;
        int netAt;
        int nextAt;

        void nameBy(Headers headers, int piece) {
            int net = headers.firstOf(NET);
            kind = headers.kindAt(piece);
            from = headers.addressOf(net, 0);
            to = headers.addressOf(net, 1);
            number = headers.valueOf(piece, kind == FOUR ? Headers.FOUR_NUMBER : Headers.PART_NUMBER);
            next = headers.valueOf(piece, kind == FOUR ? Headers.FOUR_NEXT : Headers.PART_NEXT);
        }

        boolean isNamedLike(Gathering other) {
            return kind == other.kind && from == other.from && to == other.to && number == other.number && next == other.next;
        }

        void beginAs(Gathering named, int ends) {
            live = true;
            kind = named.kind;
            from = named.from;
            to = named.to;
            number = named.number;
            next = named.next;
            until = ends;
            whole = NONE;
            came = 0;
            keptLength = NONE;
            for (int i = 0; i < MOST_ROW; i++) {
                row[i] = NONE;
            }
        }

        void takeIn(Headers headers, int piece, int[] told) {
            int start = headers.offsetOf(piece);
            int data = headers.dataBehind(piece);
            if (whole == NONE && !headers.isMoreToCome(piece)) {
                whole = start + data;
            }
            came = Math.max(came, start + data);
            if (start == 0 && keptLength == NONE) {
                keepHeaders(headers, piece);
            }
            int over = 0;
            int i = 0;
            while (i < data && start + i < lastPlace()) {
                if (row[start + i] == NONE) {
                    row[start + i] = headers.source.byteAt(headers.endOf(piece) + i);
                } else {
                    over++;
                }
                i++;
            }
            told[FRESH] = i - over;
            told[OVER] = over;
            told[BEYOND] = data - i;
            told[ROW_BYTES] = rowBytes();
            told[WHOLE] = whole;
        }

        boolean isReady() {
            if (whole == NONE || keptLength == NONE) {
                return false;
            }
            for (int i = 0; i < lastPlace(); i++) {
                if (row[i] == NONE) {
                    return false;
                }
            }
            return true;
        }

        int packetLength() {
            return headersLength() + whole;
        }

        void makePacket(Packet packet) {
            int ahead = headersLength();
            System.arraycopy(kept, 0, packet.bytes, 0, ahead);
            System.arraycopy(row, 0, packet.bytes, ahead, lastPlace());
            packet.length = packetLength();
            packet.label = 0;
            if (kind == FOUR) {
                putNumber(packet.bytes, netAt + 2, 2, packet.length - netAt);
                putNumber(packet.bytes, netAt + 6, 2, 0);
                putNumber(packet.bytes, netAt + 10, 2, 0);
                putNumber(packet.bytes, netAt + 10, 2, foldedSum(addedTwos(packet.bytes, netAt, ahead)));
            } else {
                putNumber(packet.bytes, nextAt, 1, next);
                putNumber(packet.bytes, netAt + 2, 2, packet.length - netAt - 24);
            }
        }

        private void keepHeaders(Headers headers, int piece) {
            keptLength = headers.endOf(piece);
            System.arraycopy(headers.source.bytes, 0, kept, 0, keptLength);
            netAt = headers.placeAt(headers.firstOf(NET));
            if (kind == PART) {
                nextAt = headers.placeAt(piece - 1) + (headers.kindAt(piece - 1) == SIX ? 4 : 0);
            }
        }

        private int headersLength() {
            return kind == PART ? keptLength - 8 : keptLength;
        }

        private int lastPlace() {
            return whole == NONE ? MOST_ROW : Math.min(whole, MOST_ROW);
        }

        private int rowBytes() {
            if (whole != NONE) {
                return whole;
            }
            return came <= 64 ? 64 : came <= 128 ? 128 : came <= 256 ? 256 : MOST_ROW;
        }
    }

    /** A flow; also the ends of a packet, told as the flow that it would begin. */
    private static final class Flow {
        static final int END = 1, BEGIN = 2, RESET = 4, ACK = 16;
        static final int ROW_BYTES = 48, SUM_AT = 46, MOST_LIFE = 200;
        /** By state 1 to 10, then by side, then by class 0 to 4; 0 is refused. */
        static final int[] NEXT_STATES = {
            1, 0, 0, 10, 0, 0, 2, 0, 10, 0,
            0, 0, 4, 10, 3, 0, 2, 0, 10, 0,
            0, 0, 4, 10, 3, 0, 0, 5, 10, 3,
            0, 0, 4, 10, 4, 0, 0, 6, 10, 7,
            0, 0, 6, 10, 8, 0, 0, 5, 10, 5,
            0, 0, 6, 10, 9, 0, 0, 6, 10, 9,
            0, 0, 7, 10, 7, 0, 0, 6, 10, 7,
            0, 0, 6, 10, 8, 0, 0, 8, 10, 8,
            1, 0, 9, 10, 9, 0, 0, 9, 10, 9,
            1, 0, 0, 10, 0, 0, 0, 0, 10, 0
        };
        static final int[] STREAM_LIVES = {10, 10, 200, 40, 40, 20, 40, 40, 8, 3};

        boolean live;
        boolean six;
        int next;
        final long[] address = new long[2];
        final int[] port = new int[2];
        int state;
        int until;
        final int[] last = new int[2];
        final boolean[] hasLast = new boolean[2];
        final int[] window = new int[2];
        final long[] packets = new long[2];
        final long[] bytes = new long[2];
        boolean answered;
        int pool = NONE;
        long changedAddress;
        int changedPort = NONE;

        /** The ends that a net and a carried header tell. */
        void describe(Headers headers, int net, int inner) {
            int kind = headers.kindAt(inner);
            six = headers.kindAt(net) == SIX;
            next = kind == CONTROL ? 1 : kind == STREAM ? 6 : 17;
            for (int side = 0; side < 2; side++) {
                address[side] = headers.addressOf(net, side);
                port[side] = (int) (kind == CONTROL ? headers.valueOf(inner, 3) >>> 16 : headers.valueOf(inner, side));
            }
        }

        void beginAs(Flow ends) {
            live = true;
            six = ends.six;
            next = ends.next;
            for (int side = 0; side < 2; side++) {
                address[side] = ends.address[side];
                port[side] = ends.port[side];
            }
            state = next == 6 ? 1 : 0;
            pool = NONE;
            changedPort = NONE;
            forget();
        }

        void forget() {
            for (int side = 0; side < 2; side++) {
                last[side] = 0;
                hasLast[side] = false;
                window[side] = 0;
                packets[side] = 0;
                bytes[side] = 0;
            }
            answered = false;
        }

        /** The side that sends what has these ends; NONE if they are not this flow's. */
        int sideOf(Flow ends) {
            if (!live || six != ends.six || next != ends.next) {
                return NONE;
            }
            if (hasEnd(ends, 0, address[0], port[0]) && hasEnd(ends, 1, address[1], port[1])) {
                return 0;
            }
            boolean toUs = pool == NONE ? hasEnd(ends, 1, address[0], port[0]) : hasEnd(ends, 1, changedAddress, changedPort);
            return toUs && hasEnd(ends, 0, address[1], port[1]) ? 1 : NONE;
        }

        /** Takes a packet in: 0, or why it is refused. */
        int takeIn(Headers headers, int inner, int side, int time) {
            if (next == 6) {
                int refusal = takeStream(headers, inner, side);
                if (refusal != 0) {
                    return refusal;
                }
            } else if (next == 17 && side == 1) {
                state = 1;
            }
            packets[side]++;
            bytes[side] += headers.source.length;
            answered = answered || side == 1;
            until = time + lifeNow();
            return 0;
        }

        int figure(int what, int time) {
            switch (what) {
                case 0: return next;
                case 1: return state;
                case 2: return port[0];
                case 3: return port[1];
                case 4: return until - time;
                case 5: return last[0];
                case 6: return last[1];
                case 7: return window[0];
                case 8: return window[1];
                case 9: return changedPort;
                case 10: return six ? 1 : 0;
                default: return OUTSIDE;
            }
        }

        long longFigure(int what) {
            switch (what) {
                case 0: return address[0];
                case 1: return address[1];
                case 2: return packets[0];
                case 3: return packets[1];
                case 4: return bytes[0];
                case 5: return bytes[1];
                default: return NONE;
            }
        }

        void layRow(int[] tape, int at, int time) {
            int flags = (six ? 16 : 0) + (hasLast[0] ? 32 : 0) + (hasLast[1] ? 64 : 0) + (answered ? 128 : 0);
            putNumber(tape, at, 1, next);
            putNumber(tape, at + 1, 1, state + flags);
            for (int side = 0; side < 2; side++) {
                putNumber(tape, at + 2 + 2 * side, 2, port[side]);
                putNumber(tape, at + 6 + 2 * side, 2, window[side]);
                putNumber(tape, at + 10 + 8 * side, 8, address[side]);
                putNumber(tape, at + 26 + 4 * side, 4, last[side]);
            }
            putNumber(tape, at + 34, 4, until - time);
            putNumber(tape, at + 38, 4, packets[0] + packets[1]);
            putNumber(tape, at + 42, 4, bytes[0] + bytes[1]);
            putNumber(tape, at + SUM_AT, 2, foldedSum(addedTwos(tape, at, at + SUM_AT)));
        }

        /** Becomes the flow of a whole row: whether the row is right by itself. */
        boolean readRow(int[] tape, int at, int time) {
            int flags = (int) numberAt(tape, at + 1, 1);
            next = (int) numberAt(tape, at, 1);
            six = (flags & 16) != 0;
            state = flags & 15;
            live = true;
            pool = NONE;
            changedPort = NONE;
            for (int side = 0; side < 2; side++) {
                port[side] = (int) numberAt(tape, at + 2 + 2 * side, 2);
                window[side] = (int) numberAt(tape, at + 6 + 2 * side, 2);
                address[side] = numberAt(tape, at + 10 + 8 * side, 8);
                hasLast[side] = (flags & 32 << side) != 0;
                last[side] = hasLast[side] ? (int) numberAt(tape, at + 26 + 4 * side, 4) : 0;
                packets[side] = side == 0 ? numberAt(tape, at + 38, 4) : 0;
                bytes[side] = side == 0 ? numberAt(tape, at + 42, 4) : 0;
            }
            answered = (flags & 128) != 0;
            long lives = numberAt(tape, at + 34, 4);
            until = time + (int) Math.min(lives, MOST_LIFE);
            boolean sumRight = numberAt(tape, at + SUM_AT, 2) == foldedSum(addedTwos(tape, at, at + SUM_AT));
            return sumRight && hasRightState() && hasRightAddresses() && lives >= 1 && lives <= MOST_LIFE;
        }

        private static boolean hasEnd(Flow ends, int side, long address, int port) {
            return ends.address[side] == address && ends.port[side] == port;
        }

        private boolean hasRightState() {
            switch (next) {
                case 1: return state == 0;
                case 6: return state >= 1 && state <= 10;
                case 17: return state <= 1;
                default: return false;
            }
        }

        private boolean hasRightAddresses() {
            return six || address[0] >>> 32 == 0 && address[1] >>> 32 == 0;
        }

        private int lifeNow() {
            if (next == 1) {
                return 5;
            }
            if (next == 17) {
                return state == 0 ? 15 : 40;
            }
            return state >= 1 && state <= 10 ? STREAM_LIVES[state - 1] : 0;
        }

        static int streamClass(int flags) {
            boolean ack = (flags & ACK) != 0;
            if ((flags & RESET) != 0) {
                return 3;
            }
            if ((flags & BEGIN) != 0) {
                return ack ? 1 : 0;
            }
            if ((flags & END) != 0) {
                return 2;
            }
            return ack ? 4 : 5;
        }

        private int takeStream(Headers headers, int inner, int side) {
            int flags = (int) headers.valueOf(inner, 5);
            int sort = streamClass(flags);
            int becomes = sort < 5 && state >= 1 && state <= 10 ? NEXT_STATES[10 * (state - 1) + 5 * side + sort] : 0;
            if (becomes == 0) {
                return REFUSED;
            }
            int sequence = (int) headers.valueOf(inner, 2);
            int span = headers.dataBehind(inner) + ((flags & BEGIN) != 0 ? 1 : 0) + ((flags & END) != 0 ? 1 : 0);
            if ((sort == 2 || sort == 4) && isOut(side, sequence, span)) {
                return OUT;
            }
            if (sort == 0 && state >= 9) {
                forget();
            }
            state = becomes;
            if (!hasLast[side] || sequence + span - last[side] > 0) {
                last[side] = sequence + span;
                hasLast[side] = true;
            }
            window[side] = (int) headers.valueOf(inner, 6);
            return 0;
        }

        private boolean isOut(int side, int sequence, int span) {
            if (!hasLast[side]) {
                return false;
            }
            boolean otherSent = side == 1 || answered;
            return sequence - last[side] < -66000 || otherSent && sequence + span - last[side] > window[1 - side];
        }
    }

    /** All flows, the pools by which they are changed, and the table. */
    private static final class Flows {
        static final int MOST = 24, POOLS = 4, MOST_PORTS = 32;

        Flow[] all = new Flow[MOST];
        private Flow[] spare = new Flow[MOST];
        private final Flow ends = new Flow();
        private int net;
        private int inner;
        private boolean related;
        private final long[] poolAddress = new long[POOLS];
        private final int[] poolPort = new int[POOLS];
        private final int[] poolPorts = new int[POOLS];

        Flows() {
            for (int f = 0; f < MOST; f++) {
                all[f] = new Flow();
                spare[f] = new Flow();
            }
        }

        boolean isLive(int f) {
            return f >= 0 && f < MOST && all[f].live;
        }

        int countLive() {
            int n = 0;
            for (int f = 0; f < MOST; f++) {
                n += all[f].live ? 1 : 0;
            }
            return n;
        }

        void age(int time) {
            for (int f = 0; f < MOST; f++) {
                if (all[f].until <= time) {
                    all[f].live = false;
                }
            }
        }

        int stateOf(int f) {
            return isLive(f) ? all[f].state : NONE;
        }

        /** The flow that a packet is of, or related to. */
        int flowOf(Headers headers) {
            return findEnds(headers) ? flowOfEnds() : NONE;
        }

        int passThrough(Headers headers, int time) {
            if (!findEnds(headers)) {
                return STATE;
            }
            int f = flowOfEnds();
            if (related) {
                return f == NONE ? NOT_BEGUN : f;
            }
            if (f == NONE) {
                return begin(headers, time);
            }
            int refusal = all[f].takeIn(headers, inner, all[f].sideOf(ends), time);
            return refusal == 0 ? f : refusal;
        }

        int layPool(int k, long address, int port, int n) {
            if (k < 0 || k >= POOLS || n < 1 || n > MOST_PORTS || port < 1 || port > 65536 - n) {
                return OUTSIDE;
            }
            for (int f = 0; f < MOST; f++) {
                if (all[f].live && all[f].pool == k) {
                    return STATE;
                }
            }
            poolAddress[k] = address;
            poolPort[k] = port;
            poolPorts[k] = n;
            return n;
        }

        int changeBy(Flow flow, int k) {
            if (k < 0 || k >= POOLS) {
                return OUTSIDE;
            }
            if (flow.six || flow.next == 1 || flow.pool != NONE || poolPorts[k] == 0) {
                return STATE;
            }
            for (int i = 0; i < poolPorts[k]; i++) {
                if (!isPortTaken(poolAddress[k], poolPort[k] + i)) {
                    flow.pool = k;
                    flow.changedAddress = poolAddress[k];
                    flow.changedPort = poolPort[k] + i;
                    return flow.changedPort;
                }
            }
            return ROOM;
        }

        int rewrite(Headers headers) {
            if (!findEnds(headers) || related) {
                return STATE;
            }
            int f = flowOfEnds();
            if (f == NONE || all[f].pool == NONE) {
                return STATE;
            }
            Flow flow = all[f];
            int side = flow.sideOf(ends);
            int[] bytes = headers.source.bytes;
            int addressAt = headers.placeAt(net) + (side == 0 ? 12 : 16);
            int portAt = headers.placeAt(inner) + (side == 0 ? 0 : 2);
            putNumber(bytes, addressAt, 4, side == 0 ? flow.changedAddress : flow.address[0]);
            putNumber(bytes, portAt, 2, side == 0 ? flow.changedPort : flow.port[0]);
            headers.mend(inner);
            headers.mend(net);
            return side;
        }

        int layTable(int[] tape, int time) {
            int length = 0;
            for (int f = 0; f < MOST; f++) {
                if (all[f].live && all[f].pool == NONE) {
                    all[f].layRow(tape, length, time);
                    length += Flow.ROW_BYTES;
                }
            }
            return length;
        }

        int readTable(int[] tape, int length, int time) {
            int rows = (length + Flow.ROW_BYTES - 1) / Flow.ROW_BYTES;
            for (int r = 0; r < rows; r++) {
                boolean whole = (r + 1) * Flow.ROW_BYTES <= length;
                if (r >= MOST || !whole || !spare[r].readRow(tape, r * Flow.ROW_BYTES, time) || isTold(r)) {
                    return FINDING_LESS - r;
                }
            }
            for (int r = rows; r < MOST; r++) {
                spare[r].live = false;
            }
            Flow[] old = all;
            all = spare;
            spare = old;
            return rows;
        }

        private boolean isTold(int r) {
            for (int ahead = 0; ahead < r; ahead++) {
                if (spare[ahead].sideOf(spare[r]) != NONE) {
                    return true;
                }
            }
            return false;
        }

        private boolean isPortTaken(long address, int port) {
            for (int f = 0; f < MOST; f++) {
                Flow flow = all[f];
                if (flow.live && flow.pool != NONE && flow.changedAddress == address && flow.changedPort == port) {
                    return true;
                }
            }
            return false;
        }

        private int begin(Headers headers, int time) {
            if (ends.next == 6 && Flow.streamClass((int) headers.valueOf(inner, 5)) != 0) {
                return NOT_BEGUN;
            }
            if (ends.next == 1 && headers.valueOf(inner, 0) != 8) {
                return NOT_BEGUN;
            }
            for (int f = 0; f < MOST; f++) {
                if (!all[f].live) {
                    all[f].beginAs(ends);
                    all[f].takeIn(headers, inner, 0, time);
                    return f;
                }
            }
            return ROOM;
        }

        private int flowOfEnds() {
            for (int f = 0; f < MOST; f++) {
                if (all[f].sideOf(ends) != NONE) {
                    return f;
                }
            }
            return NONE;
        }

        /** Finds a packet's ends, or those that it quotes, if it is related to their flow. */
        private boolean findEnds(Headers headers) {
            related = false;
            net = headers.firstOf(NET);
            if (headers.finding != 0 || net == NONE || headers.pieceHeader() != NONE) {
                return false;
            }
            inner = headers.innerOf(net);
            if (!isCarriedKind(headers.kindAt(inner))) {
                return false;
            }
            related = isQuoting(headers);
            if (related) {
                ends.describe(headers, inner + 1, inner + 2);
            } else {
                ends.describe(headers, net, inner);
            }
            return true;
        }

        private boolean isQuoting(Headers headers) {
            if (headers.kindAt(inner) != CONTROL) {
                return false;
            }
            long type = headers.valueOf(inner, 0);
            boolean quotes = isNetKind(headers.kindAt(inner + 1)) && isCarriedKind(headers.kindAt(inner + 2));
            return (type == 3 || type == 11) && quotes;
        }
    }

    /** A row that the rules work with; of headers an item is the kind, and the fields stand beside it. */
    private static final class Row {
        static final int MOST = 40, SORTS = 7, BYTES = 0, SHORTS = 1, CHARS = 2, INTS = 3, HEADERS = 5, CARRIED_ONES = 6;

        int sort = NONE;
        int length;
        final long[] items = new long[MOST];
        final long[] fields = new long[MOST * Headers.MOST_FIELDS];

        boolean hasItem(long i) {
            return i >= 0 && i < length;
        }

        boolean isOfHeaders() {
            return sort >= HEADERS;
        }

        void renew(int sortNow, int lengthNow) {
            sort = sortNow;
            length = lengthNow;
            for (int i = 0; i < MOST; i++) {
                items[i] = isOfHeaders() ? NONE : 0;
            }
        }

        void listAll(Headers headers) {
            renew(HEADERS, headers.count);
            for (int h = 0; h < headers.count; h++) {
                items[h] = headers.kindAt(h);
                for (int f = 0; f < Headers.MOST_FIELDS; f++) {
                    fields[h * Headers.MOST_FIELDS + f] = headers.valueOf(h, f);
                }
            }
        }

        void putItem(int i, long number) {
            if (!hasItem(i)) {
                return;
            }
            switch (sort) {
                case BYTES: items[i] = (byte) number; break;
                case SHORTS: items[i] = (short) number; break;
                case CHARS: items[i] = (char) number; break;
                case INTS: items[i] = (int) number; break;
                default: items[i] = number; break;
            }
        }

        boolean isUnlike(Row other) {
            return sort != other.sort && !(isOfHeaders() && other.isOfHeaders());
        }

        /** Copies n items that both rows have: whether all could be stored. */
        boolean copyInto(Row to, int from, int at, int n) {
            // Both may be one row: then the last goes first; of like sorts none can be refused on the way.
            if (sort == to.sort && from < at) {
                for (int i = n - 1; i >= 0; i--) {
                    copyItem(to, from + i, at + i);
                }
                return true;
            }
            for (int i = 0; i < n; i++) {
                if (to.sort == CARRIED_ONES && items[from + i] != NONE && !isCarriedKind((int) items[from + i])) {
                    return false;
                }
                copyItem(to, from + i, at + i);
            }
            return true;
        }

        private void copyItem(Row to, int from, int at) {
            to.items[at] = items[from];
            if (isOfHeaders()) {
                System.arraycopy(fields, from * Headers.MOST_FIELDS, to.fields, at * Headers.MOST_FIELDS, Headers.MOST_FIELDS);
            }
        }
    }

    /** All that a chain which fails gives back. */
    private static final class Memory {
        final long[] counters = new long[COUNTERS];
        final int[] buckets = new int[BUCKETS];
        final long[] setItems = new long[SETS * SET_ITEMS];
        final int[] setSizes = new int[SETS];
        final long[] log = new long[LOG_ITEMS];
        int logCount;
        long label;

        void becomeLike(Memory other) {
            System.arraycopy(other.counters, 0, counters, 0, COUNTERS);
            System.arraycopy(other.buckets, 0, buckets, 0, BUCKETS);
            System.arraycopy(other.setItems, 0, setItems, 0, SETS * SET_ITEMS);
            System.arraycopy(other.setSizes, 0, setSizes, 0, SETS);
            System.arraycopy(other.log, 0, log, 0, LOG_ITEMS);
            logCount = other.logCount;
            label = other.label;
        }

        void addToLog(long number) {
            log[logCount % LOG_ITEMS] = number;
            logCount++;
        }

        long logItem(int i) {
            return i < 0 || i >= LOG_ITEMS || i >= logCount ? NONE : log[(logCount - 1 - i) % LOG_ITEMS];
        }

        long setItem(int k, int i) {
            return i < 0 || i >= setSizes[k] ? NONE : setItems[k * SET_ITEMS + i];
        }

        boolean knows(int k, long number) {
            for (int i = 0; i < setSizes[k]; i++) {
                if (setItems[k * SET_ITEMS + i] == number) {
                    return true;
                }
            }
            return false;
        }

        void learn(int k, long number) {
            if (knows(k, number)) {
                return;
            }
            int first = k * SET_ITEMS;
            if (setSizes[k] == SET_ITEMS) {
                System.arraycopy(setItems, first + 1, setItems, first, SET_ITEMS - 1);
                setSizes[k]--;
            }
            setItems[first + setSizes[k]] = number;
            setSizes[k]++;
        }
    }

    /** A chain that is being done: where to go on behind it, and what it gives back if it fails. */
    private static final class Frame {
        int chain;
        int back;
        boolean tried;
        final Memory kept = new Memory();
    }

    /** Rules as a row of operations: deeds and exps by the numbers of their words, signs by their characters. */
    private static final class Program {
        static final int MOST_CHAINS = 16, MOST_NODES = 300;
        /** No text has more: a node becomes at most three operations, the ends of a chain are two. */
        static final int MOST_CODE = 3 * MOST_NODES + 2 * MOST_CHAINS;
        static final int CHAIN = 0, BEHIND = 1, ELSE = 2, IF = 3, TAKE = 4, DROP = 5, ANSWER = 6, RETURN = 7, JUMP = 8, TRY = 9;
        static final int MARK = 10, COUNT = 11, LOG = 12, LEARN = 13, PUT = 14, COPY = 15, FRESH = 16, LIST = 17, FAIL = 18;
        static final int TIME = 19, SIZE = 20, FLOW = 21, FLOW_STATE = 22, FAILURE = 23;
        static final int HAS = 24, BYTE = 25, SPEND = 26, LONG = 27, IN = 28, ROW = 29, HEAD = 30, FIRST_KIND = 31;
        static final int NUMBER = 50, FIELD = 51, LABEL = 52;
        static final int STEP = 60, GO = 61, BODY_ENDS = 62, BEHIND_ENDS = 63;
        static final int SIGNED = 256, MINUS = 512, SKIP_IF_TRUE = 513, SKIP_IF_FALSE = 514, TRUTH = 515;

        final int[] ops = new int[MOST_CODE];
        final int[] args = new int[MOST_CODE];
        int size;
        int chains;
        int nodes;
        final int[] bodies = new int[MOST_CHAINS];
        final int[] behinds = new int[MOST_CHAINS];

        void clear() {
            size = 0;
            chains = 0;
            nodes = 0;
        }

        int emit(int op, int arg) {
            if (size < MOST_CODE) {
                ops[size] = op;
                args[size] = arg;
                size++;
            }
            return size - 1;
        }

        /** Makes a jump that was laid earlier lead to what is laid next. */
        void land(int jump) {
            if (jump >= 0 && jump < size) {
                args[jump] = size;
            }
        }

        int opAt(int i) {
            return i >= 0 && i < size ? ops[i] : BEHIND_ENDS;
        }

        int argAt(int i) {
            return i >= 0 && i < size ? args[i] : 0;
        }
    }

    /** Reads a text of rules into a program, up to the first fault. */
    private static final class Parser {
        static final int END = 0, WORD = 1, NUMBER = 2, SIGN = 3, NO_TOKEN = 4;
        static final int BAD_TOKEN = 1, MISPLACED = 2, TOO_MUCH = 3, NAME_TWICE = 4, NO_FIELD = 5, TOO_GREAT = 6, NO_CHAIN = 7;
        static final int MOST_LETTERS = 9, MOST_DIGITS = 10, MOST_WITHIN = 12;
        static final int OR_RANK = 0, AND_RANK = 1, LESS_RANK = 2, SUM_RANK = 3, TERM_RANK = 4, NO_RANK = 9;
        static final String SIGNS = "{}()[];,.=<>+-*/%&|!";
        static final String WORDS = "chain behind else if take drop answer return jump try mark count log learn put copy fresh list fail time size flow state failure has byte spend long in row head link tag four six hops route part control stream datagram tunnel rest net carried";

        int fault;
        int faultAt = NONE;
        Program program = new Program();
        private int[] text = new int[0];
        private int length;
        private final int[] names = new int[Program.MOST_CHAINS];
        private int token;
        private int tokenAt;
        private int tokenEnd;
        private long number;
        private int word;
        private char sign;

        void begin(int[] bytes, int count) {
            text = bytes;
            length = count;
            program.clear();
            fault = 0;
            faultAt = NONE;
            tokenEnd = 0;
            advance();
        }

        /** Whether another chain must be read behind so many: the first one in any case. */
        boolean hasMore(int chains) {
            return fault == 0 && (chains == 0 || token != END);
        }

        void chain() {
            if (!isWord(Program.CHAIN)) {
                refuse();
                return;
            }
            if (program.chains >= Program.MOST_CHAINS) {
                fail(TOO_MUCH);
                return;
            }
            advance();
            if (!isName()) {
                refuse();
                return;
            }
            if (chainNamed(tokenAt) != NONE) {
                fail(NAME_TWICE);
                return;
            }
            names[program.chains] = tokenAt;
            program.bodies[program.chains] = program.size;
            advance();
            block(0, false);
            program.emit(Program.BODY_ENDS, 0);
            program.behinds[program.chains] = program.size;
            if (fault == 0 && isWord(Program.BEHIND)) {
                advance();
                block(0, true);
            }
            program.emit(Program.BEHIND_ENDS, 0);
            program.chains++;
        }

        private void block(int within, boolean behind) {
            open('{', within);
            for (int n = 0; n <= length && fault == 0 && !isSign('}'); n++) {
                deed(within + 1, behind);
            }
            expect('}');
        }

        private void deed(int within, boolean behind) {
            int deed = token == WORD ? word : NONE;
            if (deed < Program.IF || deed > Program.FAIL || behind && deed >= Program.TAKE && deed <= Program.TRY) {
                refuse();
                return;
            }
            countNode();
            program.emit(Program.STEP, 0);
            advance();
            if (deed == Program.IF) {
                choice(within, behind);
                return;
            }
            int arg = 0;
            if (deed == Program.JUMP || deed == Program.TRY) {
                arg = tokenAt;
                expectName();
            }
            exps(expsOf(deed), within);
            program.emit(deed, arg);
            expect(';');
        }

        private void choice(int within, boolean behind) {
            exp(OR_RANK, within);
            int otherwise = program.emit(Program.IF, 0);
            block(within, behind);
            if (fault == 0 && isWord(Program.ELSE)) {
                int over = program.emit(Program.GO, 0);
                program.land(otherwise);
                advance();
                block(within, behind);
                program.land(over);
            } else {
                program.land(otherwise);
            }
        }

        private static int expsOf(int deedOrOne) {
            switch (deedOrOne) {
                case Program.MARK:
                case Program.LOG:
                case Program.LIST:
                case Program.FAIL:
                case Program.BYTE:
                case Program.SPEND:
                case Program.LONG: return 1;
                case Program.COUNT:
                case Program.LEARN:
                case Program.IN:
                case Program.ROW: return 2;
                case Program.PUT:
                case Program.FRESH:
                case Program.HEAD: return 3;
                case Program.COPY: return 5;
                default: return 0;
            }
        }

        private void exps(int count, int within) {
            for (int n = 0; n < count && fault == 0; n++) {
                if (n > 0) {
                    expect(',');
                }
                exp(OR_RANK, within);
            }
        }

        private void exp(int rank, int within) {
            if (rank > TERM_RANK) {
                one(within);
                return;
            }
            exp(rank + 1, within);
            for (int n = 0; n <= length && fault == 0 && rankOfSign() == rank; n++) {
                char between = sign;
                countNode();
                advance();
                int skip = NONE;
                if (rank <= AND_RANK) {
                    skip = program.emit(rank == OR_RANK ? Program.SKIP_IF_TRUE : Program.SKIP_IF_FALSE, 0);
                }
                exp(rank + 1, within);
                program.emit(rank <= AND_RANK ? Program.TRUTH : Program.SIGNED + between, 0);
                program.land(skip);
                if (rank == LESS_RANK) {
                    return;
                }
            }
        }

        private int rankOfSign() {
            if (token != SIGN) {
                return NO_RANK;
            }
            switch (sign) {
                case '|': return OR_RANK;
                case '&': return AND_RANK;
                case '=':
                case '<':
                case '>': return LESS_RANK;
                case '+':
                case '-': return SUM_RANK;
                case '*':
                case '/':
                case '%': return TERM_RANK;
                default: return NO_RANK;
            }
        }

        private void one(int within) {
            if (fault != 0) {
                return;
            }
            if (isSign('-') || isSign('!')) {
                int op = sign == '-' ? Program.MINUS : Program.SIGNED + '!';
                countNode();
                open(sign, within);
                one(within + 1);
                program.emit(op, 0);
            } else if (isSign('(')) {
                open('(', within);
                exp(OR_RANK, within + 1);
                expect(')');
            } else if (token == NUMBER) {
                countNode();
                if (number > LOW_32) {
                    fail(TOO_GREAT);
                }
                program.emit(Program.NUMBER, (int) number);
                advance();
            } else if (token == WORD && word >= Program.FIRST_KIND) {
                kindField();
            } else {
                askingWord(within);
            }
        }

        private void kindField() {
            int kind = word - Program.FIRST_KIND;
            countNode();
            advance();
            if (!isSign('.')) {
                refuse();
            }
            advance();
            if (token != WORD) {
                refuse();
                return;
            }
            int field = wordIn(fieldWords(kind));
            if (field == NONE) {
                fail(NO_FIELD);
            }
            program.emit(Program.FIELD, kind * 16 + field);
            advance();
        }

        private void askingWord(int within) {
            int asked = token == WORD ? word : NONE;
            if (asked != Program.MARK && (asked < Program.TIME || asked > Program.HEAD)) {
                refuse();
                return;
            }
            countNode();
            advance();
            if (asked == Program.HAS) {
                open('(', within);
                int kind = token == WORD ? word - Program.FIRST_KIND : NONE;
                if (kind < 0) {
                    refuse();
                }
                advance();
                program.emit(Program.HAS, kind);
                expect(')');
            } else if (asked > Program.HAS) {
                open('(', within);
                exps(expsOf(asked), within + 1);
                program.emit(asked, 0);
                expect(')');
            } else {
                program.emit(asked == Program.MARK ? Program.LABEL : asked, 0);
            }
        }

        /** Names become chains only now, because a deed may name a chain that is told behind it. */
        void resolveJumps() {
            for (int i = 0; i < program.size && fault == 0; i++) {
                int op = program.opAt(i);
                if (op == Program.JUMP || op == Program.TRY) {
                    int chain = chainNamed(program.args[i]);
                    if (chain == NONE) {
                        fault = NO_CHAIN;
                        faultAt = program.args[i];
                    }
                    program.args[i] = chain;
                }
            }
        }

        private int chainNamed(int at) {
            for (int c = 0; c < program.chains; c++) {
                if (isSameWord(names[c], at)) {
                    return c;
                }
            }
            return NONE;
        }

        private boolean isSameWord(int one, int other) {
            for (int i = 0; i <= MOST_LETTERS; i++) {
                int a = letterAt(one + i);
                if (a != letterAt(other + i)) {
                    return false;
                }
                if (a == 0) {
                    return true;
                }
            }
            return false;
        }

        /** The letter at a place of the text, 0 if none is there. */
        private int letterAt(int i) {
            return i >= 0 && i < length && text[i] >= 'a' && text[i] <= 'z' ? text[i] : 0;
        }

        private boolean isDigitAt(int i) {
            return i >= 0 && i < length && text[i] >= '0' && text[i] <= '9';
        }

        private static String fieldWords(int kind) {
            switch (kind) {
                case LINK: return "to from kind";
                case TAG: return "rank id kind";
                case FOUR: return "words mark total number flags offset life next sum from to";
                case SIX: return "mark length next life label from to";
                case HOPS: return "next n";
                case ROUTE: return "next n left";
                case PART: return "next offset more number";
                case CONTROL: return "type code sum rest";
                case STREAM: return "from to sequence ack words flags window sum";
                case DATAGRAM: return "from to length sum";
                case TUNNEL: return "flags kind";
                case REST: return "bytes";
                case NET: return "mark life next from to";
                default: return "sum";
            }
        }

        /** The number of the token's word in a list of words; NONE. */
        private int wordIn(String list) {
            int which = 0;
            int i = tokenAt;
            boolean same = true;
            for (int n = 0; n <= list.length(); n++) {
                char c = n < list.length() ? list.charAt(n) : ' ';
                if (c != ' ') {
                    same = same && i < tokenEnd && text[i] == c;
                    i++;
                } else if (same && i == tokenEnd) {
                    return which;
                } else {
                    which++;
                    i = tokenAt;
                    same = true;
                }
            }
            return NONE;
        }

        private void advance() {
            if (fault != 0) {
                return;
            }
            int i = tokenEnd;
            while (i < length && (text[i] == 10 || text[i] == 32)) {
                i++;
            }
            tokenAt = i;
            tokenEnd = i;
            if (i >= length) {
                token = END;
            } else if (letterAt(i) != 0) {
                while (tokenEnd < length && letterAt(tokenEnd) != 0) {
                    tokenEnd++;
                }
                token = tokenEnd - tokenAt > MOST_LETTERS ? NO_TOKEN : WORD;
                word = wordIn(WORDS);
            } else if (isDigitAt(i)) {
                takeNumber();
            } else {
                sign = (char) text[i];
                token = SIGNS.indexOf(sign) >= 0 ? SIGN : NO_TOKEN;
                tokenEnd = i + 1;
            }
        }

        private void takeNumber() {
            number = 0;
            while (tokenEnd < length && isDigitAt(tokenEnd)) {
                number = number * 10 + (text[tokenEnd] - '0');
                tokenEnd++;
            }
            token = tokenEnd - tokenAt > MOST_DIGITS ? NO_TOKEN : NUMBER;
        }

        private boolean isSign(char c) {
            return token == SIGN && sign == c;
        }

        private boolean isWord(int which) {
            return token == WORD && word == which;
        }

        private boolean isName() {
            return token == WORD && word == NONE;
        }

        private void expect(char c) {
            if (!isSign(c)) {
                refuse();
            }
            advance();
        }

        private void expectName() {
            if (!isName()) {
                refuse();
            }
            advance();
        }

        /** Goes into a block, a ( or a sign of one, unless too many stand around it. */
        private void open(char c, int within) {
            if (!isSign(c)) {
                refuse();
            } else if (within >= MOST_WITHIN) {
                fail(TOO_MUCH);
            }
            advance();
        }

        private void countNode() {
            if (program.nodes >= Program.MOST_NODES) {
                fail(TOO_MUCH);
                return;
            }
            program.nodes++;
        }

        private void refuse() {
            fail(token == NO_TOKEN ? BAD_TOKEN : MISPLACED);
        }

        private void fail(int which) {
            if (fault == 0) {
                fault = which;
                faultAt = tokenAt;
            }
        }
    }

    /** Works a program on a packet. */
    private static final class Machine {
        static final int NOTHING = 1, INDEX = 2, SIZE = 3, CAST = 4, STORE = 5, ZERO = 6, OWN = 7, SPENT = 8;
        static final int MOST_FAILURES = 2000, MOST_ROWS_MADE = 10000, MOST_STEPS = 300, MOST_CHAINS_OPEN = 8, MOST_WHY = 40;
        static final int FAILED = 3, ENDED = 4, DROPPED = 1;
        static final int MOST_STACK = 320, MOST_TURNS = 1000000;
        static final int R_FAILURE = 0, R_OWN = 1, R_STEPS = 2, R_CHAIN = 3, R_WHY = 4, R_FIRST = 10;

        final Row[] rows = new Row[ROWS];
        final Memory memory = new Memory();
        Program program = new Program();
        int failures;
        private boolean failing;
        private int made;
        private final Frame[] frames = new Frame[MOST_CHAINS_OPEN];
        private int depth;
        private final long[] stack = new long[MOST_STACK];
        private int top;
        private final int[] report = new int[R_FIRST + MOST_WHY];
        private boolean judged;
        private Headers headers = new Headers();
        private int flowNow;
        private int stateNow;
        private int timeNow;
        private int pc;
        private boolean inBehind;
        private int outcome;
        private int taken;

        Machine() {
            for (int k = 0; k < ROWS; k++) {
                rows[k] = new Row();
            }
            for (int d = 0; d < MOST_CHAINS_OPEN; d++) {
                frames[d] = new Frame();
            }
        }

        boolean hasNoFailureLeft() {
            return failures >= MOST_FAILURES;
        }

        int reported(int what) {
            if (!judged || what < 0) {
                return NONE;
            }
            boolean told = what <= R_WHY || what >= R_FIRST && what < R_FIRST + report[R_WHY];
            return told ? report[what] : NONE;
        }

        int judge(Headers read, int flowNumber, int flowState, int time) {
            headers = read;
            flowNow = flowNumber;
            stateNow = flowState;
            timeNow = time;
            clearReport();
            memory.label = headers.source.label;
            depth = 0;
            top = 0;
            taken = 0;
            enter(0, false);
            for (int n = 0; n < MOST_TURNS && depth > 0; n++) {
                perform();
                if (failing) {
                    unwind();
                }
            }
            headers.source.label = memory.label;
            if (outcome == FAILED) {
                return FINDING_LESS - report[R_FAILURE];
            }
            clearFailure();
            return outcome == ENDED ? DROPPED : outcome;
        }

        private void clearReport() {
            judged = true;
            report[R_STEPS] = 0;
            report[R_WHY] = 0;
            clearFailure();
        }

        private void clearFailure() {
            report[R_FAILURE] = 0;
            report[R_OWN] = 0;
            report[R_CHAIN] = NONE;
        }

        private void perform() {
            int op = program.opAt(pc);
            int arg = program.argAt(pc);
            pc++;
            if (op >= Program.SIGNED) {
                workSign(op, arg);
            } else if (op >= Program.STEP) {
                goOn(op, arg);
            } else if (op >= Program.NUMBER) {
                tell(op, arg);
            } else if (op >= Program.BYTE) {
                ask(op);
            } else if (op >= Program.TIME) {
                tell(op, arg);
            } else if (op >= Program.MARK) {
                doDeed(op);
            } else {
                goOn(op, arg);
            }
        }

        // ---- chains

        private int chainNow() {
            return frames[depth - 1].chain;
        }

        /** Whether the chain could be begun. */
        private boolean enter(int chain, boolean tried) {
            if (depth >= MOST_CHAINS_OPEN) {
                fail(SPENT);
                return false;
            }
            Frame frame = frames[depth];
            frame.chain = chain;
            frame.back = pc;
            frame.tried = tried;
            frame.kept.becomeLike(memory);
            depth++;
            pc = program.bodies[chain];
            inBehind = false;
            return true;
        }

        private void leaveBody(int how) {
            if (how == FAILED) {
                memory.becomeLike(frames[depth - 1].kept);
            }
            outcome = how;
            inBehind = true;
            pc = program.behinds[chainNow()];
        }

        private void leaveChain() {
            depth--;
            inBehind = false;
            if (depth == 0) {
                return;
            }
            boolean caught = outcome == FAILED && frames[depth].tried && report[R_FAILURE] != SPENT;
            if (caught) {
                taken = report[R_FAILURE];
            }
            if (caught || outcome == ENDED) {
                pc = frames[depth].back;
            } else {
                leaveBody(outcome);
            }
        }

        /** Only notes the failure: judge() unwinds, when the operation that met it has returned. */
        private void fail(int number) {
            failing = true;
            report[R_FAILURE] = number;
            report[R_OWN] = 0;
        }

        private void unwind() {
            failing = false;
            top = 0;
            report[R_CHAIN] = chainNow();
            if (failures < MOST_FAILURES) {
                failures++;
            } else {
                report[R_FAILURE] = SPENT;
                report[R_OWN] = 0;
            }
            if (inBehind) {
                memory.becomeLike(frames[depth - 1].kept);
                outcome = FAILED;
                leaveChain();
            } else {
                leaveBody(FAILED);
            }
        }

        private void note(int deed) {
            int n = report[R_WHY];
            if (n < MOST_WHY) {
                report[R_FIRST + n] = deed;
                report[R_WHY] = n + 1;
            }
        }

        private void goOn(int op, int arg) {
            switch (op) {
                case Program.STEP:
                    takeStep();
                    return;
                case Program.IF:
                    pc = pop() == 0 ? arg : pc;
                    return;
                case Program.GO:
                    pc = arg;
                    return;
                case Program.BODY_ENDS:
                    leaveBody(ENDED);
                    return;
                case Program.BEHIND_ENDS:
                    leaveChain();
                    return;
                case Program.JUMP:
                case Program.TRY:
                    goInto(op, arg);
                    return;
                case Program.RETURN:
                    note(100 * chainNow() + 5);
                    leaveBody(ENDED);
                    return;
                default:
                    note(100 * chainNow() + op - Program.TAKE);
                    leaveBody(op - Program.TAKE);
            }
        }

        /** The deed that would be one step too many is none: it fails instead. */
        private void takeStep() {
            if (report[R_STEPS] >= MOST_STEPS) {
                fail(SPENT);
            } else {
                report[R_STEPS]++;
            }
        }

        private void goInto(int op, int chain) {
            int caller = chainNow();
            if (!enter(chain, op == Program.TRY)) {
                return;
            }
            note(100 * caller + (op == Program.TRY ? 4 : 3));
            if (op == Program.TRY) {
                taken = 0;
            }
        }

        // ---- exps

        private void push(long number) {
            if (top < MOST_STACK) {
                stack[top] = number;
                top++;
            }
        }

        private void pushTruth(boolean truth) {
            push(truth ? 1 : 0);
        }

        private long pop() {
            if (top <= 0) {
                return 0;
            }
            top--;
            return stack[top];
        }

        private void tell(int op, int arg) {
            boolean there = headers.source.isThere();
            switch (op) {
                case Program.NUMBER: push(arg & LOW_32); return;
                case Program.FIELD: tellField(arg / 16, arg % 16); return;
                case Program.HAS: pushTruth(headers.firstOf(arg) != NONE); return;
                case Program.TIME: push(timeNow); return;
                case Program.FLOW: push(flowNow); return;
                case Program.FLOW_STATE: push(stateNow); return;
                case Program.FAILURE: push(taken); return;
                default:
                    if (there) {
                        push(op == Program.SIZE ? headers.source.length : memory.label);
                    } else {
                        fail(NOTHING);
                    }
            }
        }

        private void tellField(int kind, int f) {
            int h = headers.firstOf(kind);
            if (h == NONE) {
                fail(NOTHING);
            } else {
                push(headers.ruleValue(h, kind, f));
            }
        }

        private void ask(int op) {
            long c = op == Program.HEAD ? pop() : 0;
            long b = op >= Program.IN ? pop() : 0;
            long a = pop();
            switch (op) {
                case Program.BYTE: askByte(a); return;
                case Program.SPEND: spend(a); return;
                case Program.LONG: askLong(a); return;
                case Program.IN: askSet(a, b); return;
                case Program.ROW: askRow(a, b); return;
                default: askHead(a, b, c);
            }
        }

        private void askByte(long i) {
            if (!headers.source.isThere()) {
                fail(NOTHING);
            } else if (!headers.source.hasByte(i)) {
                fail(INDEX);
            } else {
                push(headers.source.byteAt((int) i));
            }
        }

        private void spend(long k) {
            if (isNot(k, BUCKETS)) {
                fail(INDEX);
                return;
            }
            boolean one = memory.buckets[(int) k] > 0;
            memory.buckets[(int) k] -= one ? 1 : 0;
            pushTruth(one);
        }

        private void askLong(long k) {
            if (isRow(k)) {
                push(rows[(int) k].length);
            }
        }

        private void askSet(long k, long number) {
            if (isNot(k, SETS)) {
                fail(INDEX);
            } else {
                pushTruth(memory.knows((int) k, number));
            }
        }

        private void askRow(long k, long i) {
            if (isItemOfNumbers(k, i)) {
                push(rows[(int) k].items[(int) i]);
            }
        }

        private void askHead(long k, long i, long f) {
            if (!isRow(k)) {
                return;
            }
            Row row = rows[(int) k];
            if (!row.isOfHeaders()) {
                fail(CAST);
            } else if (!row.hasItem(i)) {
                fail(INDEX);
            } else if (row.items[(int) i] == NONE) {
                fail(NOTHING);
            } else if (isNot(f, Headers.fieldCount((int) row.items[(int) i]))) {
                fail(INDEX);
            } else {
                push(row.fields[(int) i * Headers.MOST_FIELDS + (int) f]);
            }
        }

        private static boolean isNot(long k, int count) {
            return k < 0 || k >= count;
        }

        /** Whether there is a row k; fails where there is none. */
        private boolean isRow(long k) {
            if (isNot(k, ROWS)) {
                fail(INDEX);
                return false;
            }
            if (rows[(int) k].sort == NONE) {
                fail(NOTHING);
                return false;
            }
            return true;
        }

        private boolean isItemOfNumbers(long k, long i) {
            if (!isRow(k)) {
                return false;
            }
            if (rows[(int) k].isOfHeaders()) {
                fail(CAST);
                return false;
            }
            if (!rows[(int) k].hasItem(i)) {
                fail(INDEX);
                return false;
            }
            return true;
        }

        private void workSign(int op, int arg) {
            long b = pop();
            switch (op) {
                case Program.MINUS: push(-b); return;
                case Program.TRUTH: pushTruth(b != 0); return;
                case Program.SIGNED + '!': pushTruth(b == 0); return;
                case Program.SKIP_IF_TRUE: skip(b != 0, arg); return;
                case Program.SKIP_IF_FALSE: skip(b == 0, arg); return;
                default: workBetween((char) (op - Program.SIGNED), pop(), b);
            }
        }

        /** Where the left one tells it, its truth stays and the right one is not worked. */
        private void skip(boolean tells, int to) {
            if (tells) {
                pushTruth(program.opAt(pc - 1) == Program.SKIP_IF_TRUE);
                pc = to;
            }
        }

        private void workBetween(char sign, long a, long b) {
            switch (sign) {
                case '+': push(a + b); return;
                case '-': push(a - b); return;
                case '*': push(a * b); return;
                case '=': pushTruth(a == b); return;
                case '<': pushTruth(a < b); return;
                case '>': pushTruth(a > b); return;
                default: divide(sign, a, b);
            }
        }

        private void divide(char sign, long a, long b) {
            if (b == 0) {
                fail(ZERO);
            } else {
                push(sign == '/' ? a / b : a % b);
            }
        }

        // ---- deeds: the stack holds their exps alone

        private void doDeed(int op) {
            top = 0;
            switch (op) {
                case Program.MARK: setLabel(); return;
                case Program.COUNT: count(); return;
                case Program.LOG: memory.addToLog(stack[0]); return;
                case Program.LEARN: learn(); return;
                case Program.PUT: putItem(); return;
                case Program.COPY: copyItems(); return;
                case Program.FRESH: makeFresh(); return;
                case Program.LIST: makeList(); return;
                default:
                    fail(OWN);
                    report[R_OWN] = (int) stack[0];
            }
        }

        private void setLabel() {
            if (headers.source.isThere()) {
                memory.label = stack[0];
            } else {
                fail(NOTHING);
            }
        }

        private void count() {
            if (isNot(stack[0], COUNTERS)) {
                fail(INDEX);
            } else {
                memory.counters[(int) stack[0]] += stack[1];
            }
        }

        private void learn() {
            if (isNot(stack[0], SETS)) {
                fail(INDEX);
            } else {
                memory.learn((int) stack[0], stack[1]);
            }
        }

        private void putItem() {
            if (isItemOfNumbers(stack[0], stack[1])) {
                rows[(int) stack[0]].putItem((int) stack[1], stack[2]);
            }
        }

        private void copyItems() {
            if (isNot(stack[0], ROWS) || isNot(stack[2], ROWS)) {
                fail(INDEX);
                return;
            }
            Row from = rows[(int) stack[0]];
            Row to = rows[(int) stack[2]];
            if (from.sort == NONE || to.sort == NONE) {
                fail(NOTHING);
            } else if (from.isUnlike(to)) {
                fail(STORE);
            } else if (isBeyond(from, stack[1], stack[4]) || isBeyond(to, stack[3], stack[4])) {
                fail(INDEX);
            } else if (!from.copyInto(to, (int) stack[1], (int) stack[3], (int) stack[4])) {
                fail(STORE);
            }
        }

        private static boolean isBeyond(Row row, long i, long n) {
            return i < 0 || n < 0 || i > row.length || n > row.length - i;
        }

        private void makeFresh() {
            long k = stack[0];
            long sort = stack[1];
            long n = stack[2];
            if (isNot(k, ROWS)) {
                fail(INDEX);
            } else if (isNot(sort, Row.SORTS)) {
                fail(SPENT);
            } else if (n < 0) {
                fail(SIZE);
            } else if (n > Row.MOST || made >= MOST_ROWS_MADE) {
                fail(SPENT);
            } else {
                made++;
                rows[(int) k].renew((int) sort, (int) n);
            }
        }

        private void makeList() {
            if (isNot(stack[0], ROWS)) {
                fail(INDEX);
            } else if (!headers.source.isThere()) {
                fail(NOTHING);
            } else if (made >= MOST_ROWS_MADE) {
                fail(SPENT);
            } else {
                made++;
                rows[(int) stack[0]].listAll(headers);
            }
        }
    }
}
