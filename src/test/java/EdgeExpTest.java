import java.util.function.Consumer;

/** Each boundary of what one deed or one exp works with, and the order in which FAILURES are asked: promises 29, 31 to 36. */
public final class EdgeExpTest {
    private static final int NONE = PacketWall.NONE, OUTSIDE = PacketWall.OUTSIDE, STATE = PacketWall.STATE;
    private static final int NOTHING = 1, INDEX = 2, SIZE = 3, CAST = 4, STORE = 5, ZERO = 6, OWN = 7, SPENT = 8;
    private static final int LEAST = Integer.MIN_VALUE, MOST = Integer.MAX_VALUE;
    /** The greatest and the least long, and one beyond the ints, as exps. */
    private static final String GREATEST = "(4294967295*2147483648+2147483647)", LOWEST = "(0-4294967295*2147483648-2147483648)", BEYOND_INTS = "(4294967295+1)";

    public static void main(String[] args) {
        verdictNumbers();
        numbersThatWrap();
        divisorsThatAreZero();
        truthOfNumbers();
        bytesOfThePacket();
        noPacket();
        headersThatAreNot();
        expsFromTheLeft();
        counterNumbers();
        countersThatWrap();
        marksThatWrap();
        marksOfTwoPackets();
        whatAFailedExpLeaves();
        theLatest20OfTheLog();
        setNumbers();
        a17thNumberOfASet();
        bucketNumbers();
        bucketsThatAreEmpty();
        bucketsThatAreFull();
        bucketsFromBucketOn();
        rowNumbers();
        lowestBits();
        orderOfRowAndPut();
        orderOfHead();
        fieldsOfHead();
        orderOfFresh();
        freshOfEachSort();
        orderOfList();
        orderOfCopy();
        copyEnds();
        copyOverItself();
        copyOfHeaders();
        tenThousandRows();
        numbersOfOwn();
        Wall.finish();
    }

    private static int[] datagram() {
        return Wall.link(4, Wall.four(17, 10, 11, Wall.datagram(1000, 53, Wall.b(5, 6, 255))));
    }

    private static Wall wall() {
        return Wall.fresh().packet(0, datagram());
    }

    private static void works(String exp, long want) {
        Wall w = wall();
        Wall.due(exp, w.judge("chain a{log " + exp + ";take;}"), 0);
        Wall.due(exp + " is", w.x.logged(0), want);
    }

    /** The deeds fail in the end, of the one chain there is, and nothing but ROWS is left of them. */
    private static void fails(String deeds, int failure) {
        fails(wall(), deeds, failure);
    }

    private static void fails(Wall w, String deeds, int failure) {
        int failures = w.x.told(6);
        Wall.due(deeds, w.judge("chain a{count 7,1;" + deeds + "take;}"), -10 - failure);
        Wall.due(deeds + ": why 0", w.x.why(0), failure);
        Wall.due(deeds + ": why 3", w.x.why(3), 0);
        Wall.due(deeds + ": why 4", w.x.why(4), 0);
        Wall.due(deeds + ": failures", w.x.told(6), failures + 1);
        Wall.due(deeds + ": given back", w.x.counter(7), 0);
    }

    private static void goes(String deeds) {
        Wall w = wall();
        Wall.due(deeds, w.judge("chain a{" + deeds + "take;}"), 0);
    }

    // ---- the call

    private static void verdictNumbers() {
        Consumer<Wall> ruled = w -> {
            w.packet(0, datagram());
            w.rules("chain a{count 0,1;log 5;answer;}");
            w.x.verdict(0);
        };
        for (int p : new int[] {-1, 24, LEAST, MOST}) {
            Wall.refused("verdict " + p, ruled, x -> x.verdict(p), OUTSIDE);
            Wall.refused("verdict " + p + " without rules", w -> { }, x -> x.verdict(p), OUTSIDE);
        }
        Wall.refused("without rules", w -> w.packet(0, datagram()), x -> x.verdict(0), STATE);
        Wall.refused("without rules, of NOTHING", w -> { }, x -> x.verdict(23), STATE);
        Consumer<Wall> fault = w -> {
            w.packet(0, datagram());
            w.rules("chain a{take}");
        };
        Wall.refused("behind a fault alone", fault, x -> x.verdict(0), STATE);
        Wall w = Wall.fresh();
        w.rules("chain a{answer;}");
        Wall.due("of NOTHING, the first", w.x.verdict(0), 2);
        Wall.due("of NOTHING, the last", w.x.verdict(23), 2);
        Wall.due("of a packet without a byte", w.packet(3).x.verdict(3), 2);
        Wall.due("of a packet with a finding", w.packet(3, 1, 2, 0, 4).x.verdict(3), 2);
        Wall.due("a chain without a deed", w.judge("chain a{}"), 1);
        Wall.due("it had no step", w.x.why(2), 0);
    }

    // ---- numbers

    private static void numbersThatWrap() {
        works(GREATEST, Long.MAX_VALUE);
        works(LOWEST, Long.MIN_VALUE);
        works(GREATEST + "+1", Long.MIN_VALUE);
        works(LOWEST + "-1", Long.MAX_VALUE);
        works("-" + LOWEST, Long.MIN_VALUE);
        works("-" + GREATEST, Long.MIN_VALUE + 1);
        works(GREATEST + "*2", -2);
        works(LOWEST + "*2", 0);
        works(LOWEST + "*-1", Long.MIN_VALUE);
        works(LOWEST + "/-1", Long.MIN_VALUE);
        works(LOWEST + "%-1", 0);
        works(LOWEST + "/" + GREATEST, -1);
        works(LOWEST + "<" + GREATEST, 1);
        works(LOWEST + ">" + GREATEST, 0);
        works(GREATEST + "+1=" + LOWEST, 1);
        works("-1/2", 0);
        works("-3%2", -1);
        works("3%-2", 1);
        works("0-0", 0);
    }

    private static void divisorsThatAreZero() {
        fails("log 1/0;", ZERO);
        fails("log 1%0;", ZERO);
        fails("log 0/0;", ZERO);
        fails("log 0%(1-1);", ZERO);
        fails("if 1/0{}", ZERO);
        works("0/1", 0);
        works("1/-1", -1);
        works("5%1", 0);
        works("0%-1", 0);
    }

    private static void truthOfNumbers() {
        for (String number : new String[] {"1", "-1", "2", LOWEST, GREATEST, BEYOND_INTS}) {
            works("!" + number, 0);
            works("!!" + number, 1);
            works(number + "&" + number, 1);
            works(number + "|0", 1);
            works("0|" + number, 1);
            works(number + "|1/0", 1);
            works("0&" + number + "/0", 0);
            fails("log " + number + "&1/0;", ZERO);
            goes("if " + number + "{}else{fail 1;}");
        }
        works("!0", 1);
        works("0|0", 0);
        works("0&0", 0);
        fails("log 0|1/0;", ZERO);
        goes("if 0{fail 1;}");
        goes("if 0{fail 1;}else{}");
        works("0|0|3|1/0", 1);
        works("1&2&0&1/0", 0);
        works("1|1/0&1/0", 1);
    }

    // ---- the packet

    private static void bytesOfThePacket() {
        works("byte(0)", 1);
        works("byte(size-1)", 255);
        works("size", 35);
        for (String i : new String[] {"size", "-1", BEYOND_INTS, BEYOND_INTS + "+1", LOWEST, GREATEST, "4294967295"}) {
            fails("log byte(" + i + ");", INDEX);
        }
        Wall w = Wall.fresh().packet(0);
        Wall.due("no byte", w.judge("chain a{log size;log byte(0);}"), -10 - INDEX);
        w.packet(0, Wall.run(400));
        Wall.due("the last of 400", w.judge("chain a{log byte(399);take;}"), 0);
        Wall.due("it is", w.x.logged(0), 400 & 255);
        Wall.due("behind it", w.judge("chain a{log byte(400);take;}"), -10 - INDEX);
    }

    private static void noPacket() {
        for (String deeds : new String[] {"log byte(0);", "log byte(-1);", "log byte(" + GREATEST + ");", "log size;", "log mark;", "mark 1;", "list 0;", "list 7;", "log four.next;", "log link.to;",
            "log net.from;", "log carried.sum;", "log rest.bytes;"}) {
            fails(Wall.fresh(), deeds, NOTHING);
        }
        fails(Wall.fresh(), "mark 1/0;", ZERO);
        fails(Wall.fresh(), "list 8;", INDEX);
        fails(Wall.fresh(), "list -1;", INDEX);
        Wall w = Wall.fresh();
        Wall.due("what can be asked", w.judge("chain a{log flow;log state;log time;log failure;log has(link)+has(net)+has(carried)+has(rest);take;}"), 0);
        long[] want = {0, 0, 0, NONE, NONE};
        for (int i = 0; i < want.length; i++) {
            Wall.due("of no packet, " + i, w.x.logged(i), want[i]);
        }
        Wall.due("no mark", w.x.mark(0), 0);
    }

    private static void headersThatAreNot() {
        String[] kinds = {"link.to", "tag.id", "four.next", "six.next", "hops.n", "route.n", "part.more", "control.type", "stream.ack", "datagram.sum", "tunnel.kind", "rest.bytes", "net.to", "carried.sum"};
        String there = "link.to four.next datagram.sum rest.bytes net.to carried.sum";
        for (String kind : kinds) {
            boolean has = there.contains(kind);
            works("has(" + kind.substring(0, kind.indexOf('.')) + ")", has ? 1 : 0);
            if (has) {
                goes("log " + kind + ";");
            } else {
                fails("log " + kind + ";", NOTHING);
            }
        }
        Wall w = Wall.fresh().packet(0, Wall.link(4, Wall.four(17, 10, 11, Wall.b(1, 2))));
        Wall.due("those ahead of a finding stand", w.judge("chain a{log four.from;log net.to;take;}"), 0);
        Wall.due("the one with it does not", w.judge("chain a{log datagram.from;take;}"), -10 - NOTHING);
        Wall.due("nor is it a carried one", w.judge("chain a{if has(carried){drop;}take;}"), 0);
        w.packet(0);
        Wall.due("no LINK in no byte", w.judge("chain a{log link.to;}"), -10 - NOTHING);
    }

    /** Of two FAILURES the one of the exp that is further left comes, and any exp's ahead of the deed's own. */
    private static void expsFromTheLeft() {
        fails("count byte(99),1/0;", INDEX);
        fails("count 1/0,byte(99);", ZERO);
        fails("count 8,1/0;", ZERO);
        fails("learn 4,1/0;", ZERO);
        fails("put 8,0,1/0;", ZERO);
        fails("put 8,1/0,byte(99);", ZERO);
        fails("copy 8,0,0,0,1/0;", ZERO);
        fails("copy 8,1/0,0,byte(99),0;", ZERO);
        fails("fresh 8,9,1/0;", ZERO);
        fails("fresh 8,byte(99),1/0;", INDEX);
        fails("list 1/0;", ZERO);
        fails("fail 1/0;", ZERO);
        fails("log in(4,1/0);", ZERO);
        fails("log row(8,1/0);", ZERO);
        fails("log head(8,0,1/0);", ZERO);
        fails("log byte(99)+1/0;", INDEX);
        fails("log 1/0+byte(99);", ZERO);
        fails("log byte(99)=1/0;", INDEX);
        fails("log 1/(byte(99)-1);", INDEX);
    }

    // ---- counters, marks, the log

    private static void counterNumbers() {
        for (int k : new int[] {-1, 8, LEAST, MOST}) {
            Wall.due("counter " + k, Wall.fresh().x.counter(k), NONE);
        }
        for (int k = 0; k < 8; k++) {
            Wall w = wall();
            w.judge("chain a{count " + k + ",0-1;}");
            for (int other = 0; other < 8; other++) {
                Wall.due("counter " + other + " of " + k, w.x.counter(other), other == k ? -1 : 0);
            }
        }
        for (String k : new String[] {"-1", "8", BEYOND_INTS, LOWEST, GREATEST}) {
            fails("count " + k + ",1;", INDEX);
        }
    }

    private static void countersThatWrap() {
        Wall w = wall();
        w.judge("chain a{count 0," + GREATEST + ";count 1," + LOWEST + ";}");
        Wall.due("the greatest", w.x.counter(0), Long.MAX_VALUE);
        Wall.due("the least", w.x.counter(1), Long.MIN_VALUE);
        w.judge("chain a{count 0,1;count 1,0-1;}");
        Wall.due("one more", w.x.counter(0), Long.MIN_VALUE);
        Wall.due("one less", w.x.counter(1), Long.MAX_VALUE);
    }

    private static void marksThatWrap() {
        Wall w = wall();
        w.judge("chain a{mark " + GREATEST + ";}");
        Wall.due("the greatest", w.x.mark(0), Long.MAX_VALUE);
        w.judge("chain a{mark mark+1;}");
        Wall.due("one more", w.x.mark(0), Long.MIN_VALUE);
    }

    private static void marksOfTwoPackets() {
        Wall w = wall().packet(1, 1, 2).packet(23, 3);
        w.rules("chain a{mark mark+5;log mark;}");
        w.x.verdict(0);
        w.x.verdict(0);
        w.x.verdict(1);
        Wall.due("of the one", w.x.mark(0), 10);
        Wall.due("of the other", w.x.mark(1), 5);
        Wall.due("of a third", w.x.mark(23), 0);
        w.rules("chain a{log 1;}");
        w.x.verdict(23);
        Wall.due("a verdict that marks not", w.x.mark(23), 0);
        w.x.verdict(5);
        Wall.due("nor of NOTHING", w.x.mark(5), 0);
        w.tape(9);
        w.x.packet(5);
        Wall.due("which is a packet then", w.x.mark(5), 0);
    }

    /** What an exp had worked when it failed is nothing to the deeds behind the try. */
    private static void whatAFailedExpLeaves() {
        Wall w = wall();
        w.judge("chain a{try b;log 5;count 2,7;learn 1,9;try c;log 6;take;}chain b{copy 1,2,3,4,1/0;}chain c{log 11+(12+(13+byte(99)));}");
        Wall.due("log behind a try", w.x.logged(1), 5);
        Wall.due("count behind a try", w.x.counter(2), 7);
        Wall.due("learn behind a try", w.x.learned(1, 0), 9);
        Wall.due("log behind another", w.x.logged(0), 6);
        w.judge("chain a{log 1+(2+1/0);}behind{log 8;}");
        Wall.due("log in a behind", w.x.logged(0), 8);
        w.judge("chain a{log 9;}");
        Wall.due("log in the next verdict", w.x.logged(0), 9);
    }

    private static String logs(int from, int to) {
        StringBuilder text = new StringBuilder();
        for (int i = from; i < to; i++) {
            text.append("log ").append(i).append(';');
        }
        return text.toString();
    }

    private static void theLatest20OfTheLog() {
        for (int n : new int[] {0, 1, 19, 20, 21, 40, 41, 100}) {
            Wall w = wall();
            w.judge("chain a{" + logs(0, n) + "}");
            Wall.due(n + " were logged", w.x.told(8), n);
            int kept = Math.min(n, 20);
            for (int i = 0; i < kept; i++) {
                Wall.due("of " + n + ", the latest but " + i, w.x.logged(i), n - 1 - i);
            }
            for (int i : new int[] {kept, 20, -1, LEAST, MOST}) {
                Wall.due("of " + n + ", " + i, w.x.logged(i), NONE);
            }
        }
        Wall w = wall();
        w.judge("chain a{log 0-1;}");
        Wall.due("which it may be", w.x.logged(0), -1);
        w.judge("chain a{log " + LOWEST + ";}");
        Wall.due("over verdicts", w.x.told(8), 2);
        Wall.due("the latest", w.x.logged(0), Long.MIN_VALUE);
    }

    // ---- sets

    private static void setNumbers() {
        for (int k : new int[] {-1, 4, LEAST, MOST}) {
            Wall.due("how many of set " + k, Wall.fresh().x.learned(k, NONE), NONE);
            Wall.due("number 0 of set " + k, Wall.fresh().x.learned(k, 0), NONE);
        }
        for (int k = 0; k < 4; k++) {
            Wall w = wall();
            Wall.due("an empty set", w.x.learned(k, NONE), 0);
            Wall.due("its number 0", w.x.learned(k, 0), NONE);
            w.judge("chain a{learn " + k + ",0-1;log in(" + k + ",0-1);log in(" + k + ",4294967295);}");
            Wall.due("it has it", w.x.logged(1), 1);
            Wall.due("it has not another", w.x.logged(0), 0);
            for (int other = 0; other < 4; other++) {
                Wall.due("how many of " + other, w.x.learned(other, NONE), other == k ? 1 : 0);
            }
            Wall.due("which it may be", w.x.learned(k, 0), -1);
            for (int i : new int[] {1, -2, LEAST, MOST}) {
                Wall.due("number " + i, w.x.learned(k, i), NONE);
            }
        }
        for (String k : new String[] {"-1", "4", BEYOND_INTS, LOWEST, GREATEST}) {
            fails("learn " + k + ",1;", INDEX);
            fails("log in(" + k + ",1);", INDEX);
        }
    }

    private static String learns(int k, int from, int to) {
        StringBuilder text = new StringBuilder();
        for (int i = from; i < to; i++) {
            text.append("learn ").append(k).append(',').append(i).append(';');
        }
        return text.toString();
    }

    private static void setIs(String what, Wall w, int k, int first, int count) {
        Wall.due(what + ": how many", w.x.learned(k, NONE), count);
        for (int i = 0; i < count; i++) {
            Wall.due(what + ": number " + i, w.x.learned(k, i), first + i);
        }
        Wall.due(what + ": behind the last", w.x.learned(k, count), NONE);
    }

    private static void a17thNumberOfASet() {
        Wall w = wall();
        w.judge("chain a{" + learns(3, 0, 15) + "}");
        setIs("15", w, 3, 0, 15);
        w.judge("chain a{learn 3,15;}");
        setIs("16", w, 3, 0, 16);
        w.judge("chain a{learn 3,0;learn 3,15;learn 3,7;}");
        setIs("those that it has", w, 3, 0, 16);
        w.judge("chain a{learn 3,16;}");
        setIs("a 17th: the eldest goes", w, 3, 1, 16);
        w.judge("chain a{if in(3,0){drop;}if in(3,1)&in(3,16){take;}}");
        Wall.due("what it has then", w.x.why(10), 0);
        w.judge("chain a{" + learns(3, 17, 40) + "}");
        setIs("many more", w, 3, 24, 16);
        w.judge("chain a{learn 3,24;learn 3,40;learn 3,24;}");
        Wall.due("the eldest again, behind a new one: it went", w.x.learned(3, 15), 24);
        Wall.due("the new one", w.x.learned(3, 14), 40);
        Wall.due("the eldest", w.x.learned(3, 0), 26);
        for (int k = 0; k < 3; k++) {
            Wall.due("other sets", w.x.learned(k, NONE), 0);
        }
    }

    // ---- buckets

    private static void bucketNumbers() {
        Consumer<Wall> before = w -> {
            w.x.bucket(0, 5, 2);
            w.judge("chain a{log spend(0);}");
        };
        for (int k : new int[] {-1, 4, LEAST, MOST}) {
            Wall.refused("bucket " + k, before, x -> x.bucket(k, 1, 1), OUTSIDE);
            Wall.due("has " + k, Wall.fresh().x.has(k), OUTSIDE);
        }
        for (int size : new int[] {-1, 1001, LEAST, MOST}) {
            Wall.refused("size " + size, before, x -> x.bucket(0, size, 1), OUTSIDE);
        }
        for (int every : new int[] {0, -1, 1001, LEAST, MOST}) {
            Wall.refused("every " + every, before, x -> x.bucket(0, 1, every), OUTSIDE);
        }
        for (int k = 0; k < 4; k++) {
            Wall w = wall();
            Wall.due("at first", w.x.has(k), 0);
            Wall.due("the greatest", w.x.bucket(k, 1000, 1000), 1000);
            Wall.due("it is full", w.x.has(k), 1000);
            Wall.due("the least", w.x.bucket(k, 0, 1), 0);
            Wall.due("it is empty", w.x.has(k), 0);
        }
        for (String k : new String[] {"-1", "4", BEYOND_INTS, LOWEST, GREATEST}) {
            fails("log spend(" + k + ");", INDEX);
        }
        Wall w = Wall.fresh();
        before.accept(w);
        w.x.bucket(0, 1001, 1);
        w.x.tick(2);
        Wall.due("a refused one leaves its size and ticks", w.x.has(0), 5);
    }

    private static void bucketsThatAreEmpty() {
        Wall w = wall();
        w.x.bucket(1, 1, 10);
        w.x.bucket(2, 0, 1);
        w.judge("chain a{log spend(1);log spend(1);log spend(2);log spend(3);}");
        long[] want = {0, 0, 0, 1};
        for (int i = 0; i < want.length; i++) {
            Wall.due("spend " + i, w.x.logged(i), want[i]);
        }
        Wall.due("never below 0", w.x.has(1), 0);
        Wall.due("nor the one of size 0", w.x.has(2), 0);
        Wall.due("nor the one that is none", w.x.has(3), 0);
        w.x.tick(1000);
        Wall.due("size 0 gets none", w.x.has(2), 0);
        Wall.due("without bucket() it gets none", w.x.has(3), 0);
        w.judge("chain a{log 0&spend(1);log 1|spend(1);}");
        Wall.due("what is not worked spends none", w.x.has(1), 1);
    }

    private static void bucketsThatAreFull() {
        Wall w = wall();
        w.x.bucket(0, 3, 1);
        w.x.tick(1);
        Wall.due("never above its size", w.x.has(0), 3);
        w.judge("chain a{log spend(0)+spend(0);}");
        Wall.due("two went", w.x.has(0), 1);
        w.x.tick(1);
        Wall.due("one came", w.x.has(0), 2);
        w.x.tick(1);
        Wall.due("another", w.x.has(0), 3);
        w.x.tick(1000);
        Wall.due("and no more", w.x.has(0), 3);
        w.x.bucket(0, 1000, 1);
        w.x.tick(1000);
        Wall.due("the greatest", w.x.has(0), 1000);
        w.x.bucket(0, 2, 1);
        Wall.due("a smaller one is full", w.x.has(0), 2);
    }

    private static void bucketsFromBucketOn() {
        Wall w = wall();
        w.x.tick(5);
        w.x.bucket(0, 10, 1000);
        w.x.bucket(1, 10, 7);
        w.judge("chain a{log spend(0)+spend(0)+spend(1)+spend(1)+spend(1)+spend(1);}");
        w.x.tick(6);
        Wall.due("six of seven", w.x.has(1), 6);
        w.x.tick(1);
        Wall.due("seven of seven", w.x.has(1), 7);
        w.x.tick(13);
        Wall.due("20: two", w.x.has(1), 8);
        w.x.tick(1);
        Wall.due("21: three", w.x.has(1), 9);
        w.x.tick(978);
        Wall.due("999 of 1000", w.x.has(0), 8);
        w.x.tick(1);
        Wall.due("1000 of 1000", w.x.has(0), 9);
        w.x.tick(500);
        w.x.bucket(0, 10, 1000);
        w.judge("chain a{log spend(0);}");
        w.x.tick(999);
        Wall.due("from the latest bucket() on", w.x.has(0), 9);
        w.x.tick(1);
        Wall.due("then", w.x.has(0), 10);
    }

    // ---- rows

    private static void rowNumbers() {
        for (int k : new int[] {-1, 8, LEAST, MOST}) {
            Wall.due("row " + k, Wall.fresh().x.rowAt(k, NONE), OUTSIDE);
            Wall.due("item 0 of row " + k, Wall.fresh().x.rowAt(k, 0), OUTSIDE);
            Wall.due("item -2 of row " + k, Wall.fresh().x.rowAt(k, -2), OUTSIDE);
        }
        for (int k = 0; k < 8; k++) {
            Wall w = wall();
            Wall.due("NOTHING", w.x.rowAt(k, NONE), NONE);
            Wall.due("an item of NOTHING", w.x.rowAt(k, 0), NONE);
            w.judge("chain a{fresh " + k + ",4,2;put " + k + ",1,0-3;}");
            Wall.due("its sort", w.x.rowAt(k, NONE), 4);
            Wall.due("which it may be", w.x.rowAt(k, 1), OUTSIDE);
            for (int i : new int[] {2, -2, LEAST, MOST}) {
                Wall.due("item " + i, w.x.rowAt(k, i), NONE);
            }
            for (int other = 0; other < 8; other++) {
                Wall.due("row " + other, w.x.rowAt(other, NONE), other == k ? 4 : NONE);
            }
        }
    }

    private static void lowestBits() {
        String[] numbers = {"127", "128", "255", "256", "-1", "-128", "-129", "32767", "32768", "65535", "65536", "-32768", "-32769", "2147483647", "2147483648", "4294967295", BEYOND_INTS,
            GREATEST, LOWEST};
        long[] values = {127, 128, 255, 256, -1, -128, -129, 32767, 32768, 65535, 65536, -32768, -32769, 2147483647L, 2147483648L, 4294967295L, 4294967296L, Long.MAX_VALUE, Long.MIN_VALUE};
        for (int n = 0; n < numbers.length; n++) {
            Wall w = wall();
            StringBuilder deeds = new StringBuilder();
            for (int sort = 0; sort < 5; sort++) {
                deeds.append("fresh ").append(sort).append(',').append(sort).append(",1;put ").append(sort).append(",0,").append(numbers[n]).append(";log row(").append(sort).append(",0);");
            }
            w.judge("chain a{" + deeds + "}");
            long v = values[n];
            long[] want = {(byte) v, (short) v, (char) v, (int) v, v};
            for (int sort = 0; sort < 5; sort++) {
                Wall.due(numbers[n] + " in sort " + sort, w.x.rowAt(sort, 0), want[sort]);
                Wall.due(numbers[n] + " by row(), sort " + sort, w.x.logged(4 - sort), want[sort]);
            }
        }
    }

    private static void orderOfRowAndPut() {
        for (String k : new String[] {"-1", "8", BEYOND_INTS, LOWEST, GREATEST}) {
            fails("log row(" + k + ",0);", INDEX);
            fails("put " + k + ",0,1;", INDEX);
            fails("log long(" + k + ");", INDEX);
        }
        fails("log row(7,-1);", NOTHING);
        fails("put 7,-1,1;", NOTHING);
        fails("log long(7);", NOTHING);
        for (int sort = 5; sort < 7; sort++) {
            String fresh = "fresh 7," + sort + ",1;";
            fails(fresh + "log row(7,-1);", CAST);
            fails(fresh + "log row(7,0);", CAST);
            fails(fresh + "log row(7,1);", CAST);
            fails(fresh + "put 7,-1,1;", CAST);
            fails(fresh + "put 7,0,1;", CAST);
            goes(fresh + "log long(7);");
        }
        for (int sort = 0; sort < 5; sort++) {
            String fresh = "fresh 7," + sort + ",3;";
            for (String i : new String[] {"-1", "3", BEYOND_INTS, LOWEST, GREATEST}) {
                fails(fresh + "log row(7," + i + ");", INDEX);
                fails(fresh + "put 7," + i + ",1;", INDEX);
            }
            goes(fresh + "put 7,0,1;put 7,2,1;log row(7,0)+row(7,2);");
            fails("fresh 7," + sort + ",0;log row(7,0);", INDEX);
        }
    }

    private static void orderOfHead() {
        for (String k : new String[] {"-1", "8", BEYOND_INTS, LOWEST, GREATEST}) {
            fails("log head(" + k + ",-1,-1);", INDEX);
        }
        fails("log head(0,-1,-1);", NOTHING);
        for (int sort = 0; sort < 5; sort++) {
            fails("fresh 0," + sort + ",1;log head(0,-1,-1);", CAST);
            fails("fresh 0," + sort + ",1;log head(0,0,0);", CAST);
        }
        for (int sort = 5; sort < 7; sort++) {
            String fresh = "fresh 0," + sort + ",2;";
            for (String i : new String[] {"-1", "2", BEYOND_INTS, LOWEST, GREATEST}) {
                fails(fresh + "log head(0," + i + ",-1);", INDEX);
            }
            fails(fresh + "log head(0,0,-1);", NOTHING);
            fails(fresh + "log head(0,1,0);", NOTHING);
        }
        for (String f : new String[] {"-1", "3", BEYOND_INTS, LOWEST, GREATEST}) {
            fails("list 0;log head(0,0," + f + ");", INDEX);
        }
    }

    private static void fieldsOfHead() {
        int[][] packets = {Wall.link(9, Wall.tag(1, 2, 6, Wall.six(0, -3, 4, Wall.hops(43, 0, Wall.route(44, 0, 5, Wall.part(47, 0, 1, 7, Wall.tunnel(3, 4, Wall.four(1, 8, 9, Wall.control(8, 6, Wall.b(1)))))))))),
            Wall.streamPacket(0, 5, 2, 9, 3), datagram()};
        for (int[] packet : packets) {
            Wall w = Wall.fresh().packet(0, packet);
            int headers = w.x.read(0);
            for (int h = 0; h < headers; h++) {
                int fields = 0;
                while (w.x.field(0, h, fields) != NONE) {
                    fields++;
                }
                Wall v = Wall.fresh().packet(0, packet);
                v.judge("chain a{list 7;log head(7," + h + ",0);log head(7," + h + "," + (fields - 1) + ");take;}");
                Wall.due("the first field of " + h, v.x.logged(1), w.x.field(0, h, 0));
                Wall.due("the last field of " + h, v.x.logged(0), w.x.field(0, h, fields - 1));
                fails(v, "list 7;log head(7," + h + "," + fields + ");", INDEX);
            }
            fails(w, "list 7;log head(7," + headers + ",0);", INDEX);
        }
    }

    private static void orderOfFresh() {
        for (String k : new String[] {"-1", "8", BEYOND_INTS, LOWEST, GREATEST}) {
            fails("fresh " + k + ",7,-1;", INDEX);
            fails("fresh " + k + ",0,1;", INDEX);
        }
        for (String sort : new String[] {"-1", "7", BEYOND_INTS, LOWEST, GREATEST}) {
            fails("fresh 0," + sort + ",-1;", SPENT);
            fails("fresh 0," + sort + ",0;", SPENT);
        }
        for (int sort = 0; sort < 7; sort++) {
            for (String n : new String[] {"-1", "-41", LOWEST}) {
                fails("fresh 0," + sort + "," + n + ";", SIZE);
            }
            for (String n : new String[] {"41", BEYOND_INTS, BEYOND_INTS + "+1", GREATEST}) {
                fails("fresh 0," + sort + "," + n + ";", SPENT);
            }
        }
        Wall w = wall();
        w.judge("chain a{fresh 0,3,2;put 0,1,9;}");
        fails(w, "fresh 0,3,-1;", SIZE);
        Wall.due("one that fails leaves the row", w.x.rowAt(0, 1), 9);
        fails(w, "fresh 0,3,41;", SPENT);
        Wall.due("so does this", w.x.rowAt(0, 1), 9);
    }

    private static void freshOfEachSort() {
        for (int sort = 0; sort < 7; sort++) {
            Wall w = wall();
            w.judge("chain a{fresh 0,4,40;" + "put 0,39,1;" + "fresh 0," + sort + ",40;fresh 1," + sort + ",0;log long(0);log long(1);take;}");
            Wall.due("40 of sort " + sort, w.x.logged(1), 40);
            Wall.due("0 of sort " + sort, w.x.logged(0), 0);
            Wall.due("its sort", w.x.rowAt(0, NONE), sort);
            Wall.due("the sort of the empty one", w.x.rowAt(1, NONE), sort);
            Wall.due("its last item", w.x.rowAt(0, 39), sort < 5 ? 0 : NONE);
            Wall.due("behind its last item", w.x.rowAt(0, 40), NONE);
            Wall.due("the first of none", w.x.rowAt(1, 0), NONE);
        }
    }

    private static void orderOfList() {
        for (String k : new String[] {"-1", "8", BEYOND_INTS, LOWEST, GREATEST}) {
            fails("list " + k + ";", INDEX);
            fails(Wall.fresh(), "list " + k + ";", INDEX);
        }
        fails(Wall.fresh(), "list 7;", NOTHING);
        Wall w = Wall.fresh().packet(0);
        Wall.due("no header", w.judge("chain a{list 7;log long(7);take;}"), 0);
        Wall.due("none", w.x.logged(0), 0);
        Wall.due("of SORT 5", w.x.rowAt(7, NONE), 5);
        int[] tags = Wall.b();
        for (int i = 0; i < 12; i++) {
            tags = Wall.tag(0, i, i == 0 ? 5 : 9, tags);
        }
        w.packet(0, Wall.link(9, tags));
        Wall.due("12 headers and a finding", w.judge("chain a{list 7;log long(7);log head(7,11,1);take;}"), 0);
        Wall.due("12", w.x.logged(1), 12);
        Wall.due("the last one's id", w.x.logged(0), 1);
        w.x.set(0, 45, 77);
        w.rules("chain a{log head(7,11,1);take;}");
        w.x.verdict(0);
        Wall.due("it stays as it was then", w.x.logged(0), 1);
        w.x.drop(0);
        w.x.verdict(0);
        Wall.due("without the packet, too", w.x.logged(0), 1);
    }

    private static void orderOfCopy() {
        for (String k : new String[] {"-1", "8", BEYOND_INTS, LOWEST, GREATEST}) {
            fails("copy " + k + ",0,0,0,0;", INDEX);
            fails("copy 0,0," + k + ",0,0;", INDEX);
            fails("fresh 0,0,1;copy 0,0," + k + ",0,0;", INDEX);
            fails("fresh 0,0,1;copy " + k + ",0,0,0,0;", INDEX);
        }
        fails("copy 0,-1,1,-1,-1;", NOTHING);
        fails("copy 0,0,0,0,0;", NOTHING);
        fails("fresh 0,0,1;copy 0,-1,1,-1,-1;", NOTHING);
        fails("fresh 1,0,1;copy 0,-1,1,-1,-1;", NOTHING);
        for (int from = 0; from < 7; from++) {
            for (int to = 0; to < 7; to++) {
                String two = "fresh 0," + from + ",2;fresh 1," + to + ",2;";
                boolean alike = from == to || from >= 5 && to >= 5;
                if (alike) {
                    goes(two + "copy 0,0,1,0,2;");
                    fails(two + "copy 0,0,1,0,-1;", INDEX);
                } else {
                    fails(two + "copy 0,0,1,0,0;", STORE);
                    fails(two + "copy 0,-1,1,3,-1;", STORE);
                }
            }
        }
        fails("list 0;fresh 1,6,3;copy 0,0,1,0,4;", INDEX);
        fails("list 0;fresh 1,6,3;copy 0,0,1,0,3;", STORE);
    }

    private static void copyEnds() {
        String two = "fresh 0,3,3;fresh 1,3,2;";
        String[] right = {"0,0,1,0,2", "0,1,1,0,2", "0,2,1,1,1", "0,3,1,2,0", "0,0,1,0,0", "0,3,1,0,0", "0,0,1,2,0", "1,0,0,1,2"};
        String[] wrong = {"0,0,1,0,3", "0,2,1,0,2", "0,1,1,1,2", "0,4,1,0,0", "0,0,1,3,0", "0,-1,1,0,1", "0,-1,1,0,0", "0,0,1,-1,1", "0,0,1,-1,0", "0,0,1,0,-1", "0,3,1,0,1", "0,0,1,2,1",
            "0," + BEYOND_INTS + ",1,0,1", "0,0,1," + BEYOND_INTS + ",1", "0,0,1,0," + BEYOND_INTS, "0," + GREATEST + ",1,0,1", "0,1,1,0," + GREATEST, "0," + LOWEST + ",1,0," + LOWEST,
            "0,0,1," + GREATEST + "," + GREATEST, "0,2147483647,1,0,1", "0,1,1,1,2147483647"};
        for (String copy : right) {
            goes(two + "copy " + copy + ";");
        }
        for (String copy : wrong) {
            fails(two + "copy " + copy + ";", INDEX);
        }
        Wall w = wall();
        Wall.due("all 40", w.judge("chain a{fresh 0,4,40;put 0,0,7;put 0,39,8;fresh 1,4,40;copy 0,0,1,0,40;take;}"), 0);
        Wall.due("the first", w.x.rowAt(1, 0), 7);
        Wall.due("the last", w.x.rowAt(1, 39), 8);
        w = wall();
        w.judge("chain a{fresh 0,3,2;put 0,0,7;put 0,1,8;fresh 1,3,2;try b;take;}chain b{copy 0,0,1,0,3;}");
        Wall.due("none has gone by INDEX", w.x.rowAt(1, 0), 0);
    }

    private static void copyOverItself() {
        String row = "fresh 0,4,5;put 0,0,10;put 0,1,11;put 0,2,12;put 0,3,13;put 0,4,14;";
        String[] copies = {"0,0,0,1,4", "0,1,0,0,4", "0,0,0,4,1", "0,4,0,0,1", "0,0,0,0,5", "0,2,0,2,3", "0,0,0,2,3", "0,2,0,0,3", "0,0,0,1,2", "0,1,0,3,1", "0,3,0,1,1"};
        long[][] want = {{10, 10, 11, 12, 13}, {11, 12, 13, 14, 14}, {10, 11, 12, 13, 10}, {14, 11, 12, 13, 14}, {10, 11, 12, 13, 14}, {10, 11, 12, 13, 14}, {10, 11, 10, 11, 12}, {12, 13, 14, 13, 14}, {10, 10, 11, 13, 14},
            {10, 11, 12, 11, 14}, {10, 13, 12, 13, 14}};
        for (int c = 0; c < copies.length; c++) {
            Wall w = wall();
            Wall.due(copies[c], w.judge("chain a{" + row + "copy " + copies[c] + ";take;}"), 0);
            for (int i = 0; i < 5; i++) {
                Wall.due(copies[c] + ": item " + i, w.x.rowAt(0, i), want[c][i]);
            }
        }
        Wall w = wall();
        w.judge("chain a{list 0;copy 0,0,0,1,3;log head(0,2,9);log head(0,3,1);take;}");
        Wall.due("headers over themselves", w.x.logged(1), 10);
        Wall.due("with all their fields", w.x.logged(0), 53);
        w.judge("chain a{list 0;fresh 1,6,3;copy 0,2,1,0,1;copy 1,0,1,1,2;copy 1,1,1,0,2;take;}");
        Wall.due("carried ones over themselves", w.x.rowAt(1, 0), 9);
        Wall.due("nothing goes, too", w.x.rowAt(1, 1), NONE);
    }

    private static void copyOfHeaders() {
        Wall w = wall();
        w.judge("chain a{list 0;fresh 1,6,4;try b;log failure;take;}chain b{copy 0,0,1,0,4;}");
        Wall.due("the first is none: STORE", w.x.logged(0), STORE);
        Wall.due("none has gone", w.x.rowAt(1, 0), NONE);
        w.judge("chain a{list 0;fresh 1,6,4;try b;log failure;take;}chain b{copy 0,2,1,1,2;}");
        Wall.due("the second is none: STORE", w.x.logged(0), STORE);
        Wall.due("the one ahead has gone", w.x.rowAt(1, 1), 9);
        Wall.due("that one has not", w.x.rowAt(1, 2), NONE);
        w.judge("chain a{list 0;fresh 1,6,6;try b;log failure;try c;log failure;take;}chain b{copy 0,2,1,3,2;}chain c{copy 0,0,1,1,3;}");
        Wall.due("to a place further on: STORE", w.x.logged(1), STORE);
        Wall.due("the one ahead has gone", w.x.rowAt(1, 3), 9);
        Wall.due("that one has not", w.x.rowAt(1, 4), NONE);
        Wall.due("further on, the first is none: STORE", w.x.logged(0), STORE);
        Wall.due("none has gone", w.x.rowAt(1, 1) + w.x.rowAt(1, 2), 2 * NONE);
        Wall.due("the one that had gone stays", w.x.rowAt(1, 3), 9);
        w.judge("chain a{list 0;fresh 1,6,1;copy 0,2,1,0,1;fresh 2,5,2;copy 1,0,2,1,1;log head(2,1,0);log head(1,0,1);take;}");
        Wall.due("from CARRIED ones to HEADERS", w.x.rowAt(2, 1), 9);
        Wall.due("its port", w.x.logged(1), 1000);
        Wall.due("its other port", w.x.logged(0), 53);
        w.judge("chain a{fresh 0,5,2;list 3;fresh 1,6,2;copy 3,2,1,0,1;copy 0,0,1,0,2;take;}");
        Wall.due("nothing goes into CARRIED ones", w.x.rowAt(1, 0), NONE);
        w.judge("chain a{list 3;fresh 0,5,3;copy 3,2,0,1,1;copy 3,0,0,2,1;fresh 1,6,3;try b;log failure;take;}chain b{copy 0,1,1,0,2;}");
        Wall.due("a carried one, then LINK: STORE", w.x.logged(0), STORE);
        Wall.due("the carried one has gone", w.x.rowAt(1, 0), 9);
        Wall.due("LINK has not", w.x.rowAt(1, 1), NONE);
        Wall.due("behind LINK, two carried ones", w.judge("chain a{list 3;fresh 0,5,3;copy 3,0,0,0,1;copy 3,2,0,1,1;copy 3,2,0,2,1;fresh 1,6,3;copy 0,1,1,0,2;take;}"), 0);
        Wall.due("both have gone", w.x.rowAt(1, 1), 9);
        int[][] carried = {Wall.link(4, Wall.four(1, 1, 2, Wall.control(8, 0, Wall.b()))), Wall.streamPacket(0, 1, 2, 3, 0), datagram()};
        for (int i = 0; i < 3; i++) {
            Wall v = Wall.fresh().packet(0, carried[i]);
            Wall.due("a carried one, " + i, v.judge("chain a{list 0;fresh 1,6,1;copy 0,2,1,0,1;take;}"), 0);
            Wall.due("its kind", v.x.rowAt(1, 0), 7 + i);
        }
    }

    // ---- 10000 rows

    private static Wall madeRows(int n) {
        Wall w = wall();
        w.rules("chain a{" + "jump b;".repeat(10) + "}chain b{" + "fresh 0,3,1;list 1;".repeat(10) + "}");
        for (int i = 0; i < n / 200; i++) {
            Wall.due("200 rows", w.x.verdict(0), 1);
        }
        int rest = n % 200;
        Wall.due("the rest", w.judge("chain a{" + "jump b;".repeat(rest / 10) + "fresh 2,0,0;".repeat(rest % 10) + "}chain b{" + "fresh 2,0,0;".repeat(10) + "}"), 1);
        return w;
    }

    private static void tenThousandRows() {
        Wall w = madeRows(9999);
        Wall.due("the 10000th", w.judge("chain a{fresh 0,4,2;take;}"), 0);
        fails(w, "fresh 0,3,1;", SPENT);
        Wall.due("the row stays", w.x.rowAt(0, NONE), 4);
        fails(w, "fresh 0,3,0;", SPENT);
        fails(w, "list 0;", SPENT);
        fails(w, "fresh 8,3,1;", INDEX);
        fails(w, "fresh 0,7,1;", SPENT);
        fails(w, "fresh 0,3,-1;", SIZE);
        fails(w, "fresh 0,3,41;", SPENT);
        fails(w, "list 8;", INDEX);
        w.rules("chain a{list 0;}");
        Wall.due("list of no packet", w.x.verdict(5), -10 - NOTHING);
        Wall.due("rows that are there", w.judge("chain a{put 0,1,5;copy 0,0,0,1,1;log long(0);take;}"), 0);
        w = madeRows(9999);
        Wall.due("the 10000th is listed", w.judge("chain a{list 0;take;}"), 0);
        fails(w, "list 0;", SPENT);
        w = madeRows(9999);
        for (String deeds : new String[] {"fresh 0,3,41;", "fresh 0,3,0-1;", "fresh 0,7,1;", "fresh 8,3,1;", "list 8;"}) {
            w.judge("chain a{" + deeds + "}");
        }
        Wall.due("what failed made none", w.judge("chain a{fresh 0,4,2;take;}"), 0);
        w = madeRows(9998);
        Wall.due("one that was made in a chain that failed", w.judge("chain a{try b;fresh 0,4,2;take;}chain b{fresh 0,4,2;fail 1;}"), 0);
        fails(w, "fresh 0,3,1;", SPENT);
    }

    private static void numbersOfOwn() {
        String[] numbers = {"0", "1", "-1", "2147483647", "2147483648", "4294967295", BEYOND_INTS, BEYOND_INTS + "+5", GREATEST, LOWEST};
        int[] want = {0, 1, -1, MOST, LEAST, -1, 0, 5, -1, 0};
        for (int i = 0; i < numbers.length; i++) {
            Wall w = wall();
            fails(w, "fail " + numbers[i] + ";", OWN);
            Wall.due("its number " + numbers[i], w.x.why(1), want[i]);
        }
    }
}
