/** Promises 29 to 37: verdicts, why, and what rules work with. */
public final class VerdictTest {
    private static final int NONE = PacketWall.NONE, OUTSIDE = PacketWall.OUTSIDE, STATE = PacketWall.STATE;
    private static final int NOTHING = 1, INDEX = 2, SIZE = 3, CAST = 4, STORE = 5, ZERO = 6, OWN = 7, SPENT = 8;

    public static void main(String[] args) {
        answers();
        arithmetic();
        truth();
        fieldsOfPackets();
        packetWords();
        flowWords();
        whatIsNotThere();
        counters();
        logs();
        sets();
        buckets();
        rowsOfNumbers();
        rowsOfHeaders();
        copies();
        freshAndList();
        failures();
        jumps();
        tries();
        givingBack();
        behinds();
        whys();
        steps();
        depths();
        rowsMade();
        manyFailures();
        Wall.finish();
    }

    private static Wall wall() {
        return Wall.fresh().packet(0, Wall.link(4, Wall.four(17, 10, 11, Wall.datagram(1000, 53, Wall.b(5, 6, 255)))));
    }

    private static void works(String exp, long want) {
        Wall w = wall();
        Wall.due(exp, w.judge("chain a{log " + exp + ";take;}"), 0);
        Wall.due(exp + " is", w.x.logged(0), want);
    }

    private static void fails(String deeds, int failure) {
        Wall w = wall();
        Wall.due(deeds, w.judge("chain a{" + deeds + "take;}"), -10 - failure);
        Wall.due(deeds + ": why", w.x.why(0), failure);
    }

    private static void answers() {
        Wall w = Wall.fresh();
        Wall.due("no rules", w.x.verdict(0), STATE);
        Wall.due("no rules, outside", w.x.verdict(24), OUTSIDE);
        Wall.due("no why", w.x.why(0), NONE);
        Wall.due("no why 4", w.x.why(4), NONE);
        Wall.due("take", w.judge("chain a{take;drop;}"), 0);
        Wall.due("drop", w.judge("chain a{drop;take;}"), 1);
        Wall.due("answer", w.judge("chain a{answer;}"), 2);
        Wall.due("the end", w.judge("chain a{}chain b{take;}"), 1);
        Wall.due("return", w.judge("chain a{return;take;}"), 1);
        Wall.due("packet 23", w.x.verdict(23), 1);
        Wall.due("packet -1", w.x.verdict(-1), OUTSIDE);
        Wall.due("if", w.judge("chain a{if 0{take;}if 2-2|-1{answer;}}"), 2);
        Wall.due("else", w.judge("chain a{if 0{take;}else{answer;}drop;}"), 2);
        Wall.due("no else", w.judge("chain a{if 1{count 0,1;}else{answer;}take;}"), 0);
        w.packet(0, 1, 2);
        Wall.due("a packet with a finding", w.judge("chain a{if has(link){drop;}if size=2{take;}}"), 0);
    }

    private static void arithmetic() {
        works("1+2*3-4", 3);
        works("10-4-3", 3);
        works("7/2*2", 6);
        works("-7/2", -3);
        works("-7%3", -1);
        works("7%-3", 1);
        works("(1+2)*3", 9);
        works("--5", 5);
        works("-(2+3)", -5);
        works("4294967295*4294967295", 4294967295L * 4294967295L);
        works("4294967295*4294967295*4294967295", 4294967295L * 4294967295L * 4294967295L);
        works("(0-2147483648*4294967295-2147483648)/(0-1)", -9223372036854775808L);
        works("(0-2147483648*4294967295-2147483648)%(0-1)", 0);
        works("0" + "+-----------1".repeat(22), -22);
        works("0" + "+!-!-!-!-!-!1".repeat(22), 22);
        works("-(" + "!1-".repeat(70) + "!-1)", 0);
        works("0-" + "-1-".repeat(70) + "1", 69);
        fails("log 1/0;", ZERO);
        fails("log 1%(2-2);", ZERO);
    }

    private static void truth() {
        works("!0", 1);
        works("!7", 0);
        works("!!7", 1);
        works("2=2", 1);
        works("0-1<0", 1);
        works("1<1", 0);
        works("1>1", 0);
        works("2>1", 1);
        works("1=2", 0);
        works("1>2", 0);
        works("5&7", 1);
        works("5&0", 0);
        works("0|9", 1);
        works("0|0", 0);
        works("0&1|1", 1);
        works("1|1&0", 1);
        works("1|1/0", 1);
        works("0&1/0", 0);
        works("1&0&1/0", 0);
        works("0|1|1/0", 1);
        works("1+1=2&3>2", 1);
        works("3*(1<2)", 3);
        fails("log 0|1/0;", ZERO);
        fails("log 1&1/0;", ZERO);
    }

    private static void fieldsOfPackets() {
        works("link.to", 1);
        works("four.total", 31);
        works("net.mark", 3);
        works("net.life", 64);
        works("net.next", 17);
        works("net.from", 10);
        works("net.to", 11);
        works("datagram.length", 11);
        works("rest.bytes", 3);
        works("has(four)", 1);
        works("has(six)", 0);
        works("has(net)", 1);
        works("has(carried)", 1);
        works("has(stream)", 0);
        fails("log six.mark;", NOTHING);
        fails("log stream.from;", NOTHING);
        Wall w = Wall.fresh().packet(0, Wall.link(6, Wall.six(41, -3, 4, Wall.six(6, 5, 6, Wall.stream(1, 2, 3, 4, 5, Wall.b())))));
        w.x.repair(0);
        w.judge("chain a{log net.from;log six.from;log net.to;log net.mark;log net.life;log net.next;log carried.sum;log stream.sum;}");
        long sum = w.x.sum(0, 3);
        long[] want = {sum, sum, 41, 64, 3, 4, -3, -3};
        for (int i = 0; i < want.length; i++) {
            Wall.due("of SIX, " + i, w.x.logged(i), want[i]);
        }
        w.packet(0, Wall.link(4, Wall.four(1, 1, 2, Wall.control(8, 9, Wall.b()))));
        w.x.repair(0);
        w.judge("chain a{log carried.sum;}");
        Wall.due("CONTROL's sum", w.x.logged(0), w.x.sum(0, 2));
        w.packet(0, Wall.link(5, Wall.b()));
        Wall.due("no net", w.judge("chain a{log has(net)+has(carried);log net.mark;}"), -10 - NOTHING);
    }

    private static void packetWords() {
        works("size", 35);
        works("byte(34)", 255);
        works("byte(0)", 1);
        fails("log byte(35);", INDEX);
        fails("log byte(-1);", INDEX);
        fails("log byte(4294967295+1);", INDEX);
        works("time", 0);
        works("failure", 0);
        works("mark", 0);
        Wall w = wall();
        w.x.tick(9);
        w.judge("chain a{mark 0-5;log mark;log time;take;}");
        Wall.due("mark", w.x.mark(0), -5);
        Wall.due("mark in a rule", w.x.logged(1), -5);
        Wall.due("time", w.x.logged(0), 9);
        w.judge("chain a{mark mark*2;}");
        Wall.due("mark stays", w.x.mark(0), -10);
        Wall.due("of another packet", w.x.mark(1), 0);
        Wall.due("of packet 24", w.x.mark(24), 0);
        w.packet(0, 1);
        Wall.due("packet() clears it", w.x.mark(0), 0);
        w.judge("chain a{mark 3;}");
        w.x.drop(0);
        Wall.due("of nothing", w.x.mark(0), 0);
        w.tape(1);
        w.x.packet(0);
        Wall.due("drop() clears it", w.x.mark(0), 0);
    }

    private static void flowWords() {
        works("flow", NONE);
        works("state", NONE);
        Wall w = wall();
        w.packet(1, Wall.streamPacket(0, 1, Wall.SYN, 9, 0));
        w.x.track(1);
        w.x.track(0);
        w.judge("chain a{log flow;log state;}");
        Wall.due("flow", w.x.logged(1), 1);
        Wall.due("state", w.x.logged(0), 0);
        w.x.verdict(1);
        Wall.due("flow of the stream", w.x.logged(1), 0);
        Wall.due("state of the stream", w.x.logged(0), 1);
        w.packet(2, Wall.link(4, Wall.four(1, 7, 8, Wall.control(3, 0, Wall.four(17, 11, 10, Wall.datagram(53, 1000, Wall.b()))))));
        w.x.verdict(2);
        Wall.due("related", w.x.logged(1), 1);
        w.packet(2, Wall.link(4, Wall.fourPiece(17, 1, 1, 0, 10, 11, Wall.datagram(1000, 53, Wall.b()))));
        w.x.verdict(2);
        Wall.due("a piece", w.x.logged(1), NONE);
        Wall.due("packets are not counted", w.x.flowed(1, 2), 1);
    }

    private static void whatIsNotThere() {
        Wall w = Wall.fresh();
        for (String deed : new String[] {"log size;", "log mark;", "log byte(0);", "mark 1;", "list 0;", "log four.mark;"}) {
            Wall.due(deed + " of nothing", w.judge("chain a{" + deed + "}"), -10 - NOTHING);
        }
        Wall.due("what nothing has", w.judge("chain a{log flow;log state;log has(link);take;}"), 0);
        Wall.due("flow of nothing", w.x.logged(2), NONE);
        Wall.due("state of nothing", w.x.logged(1), NONE);
        Wall.due("has of nothing", w.x.logged(0), 0);
        Wall.due("the exp comes first", w.judge("chain a{mark 1/0;}"), -10 - ZERO);
    }

    private static void counters() {
        Wall w = wall();
        w.judge("chain a{count 0,5;count 7,0-3;count 0,2;}");
        Wall.due("counter 0", w.x.counter(0), 7);
        Wall.due("counter 7", w.x.counter(7), -3);
        Wall.due("counter 8", w.x.counter(8), NONE);
        Wall.due("counter -1", w.x.counter(-1), NONE);
        fails("count 8,1;", INDEX);
        fails("count 0-1,1;", INDEX);
        fails("count 4294967295+1,1;", INDEX);
        fails("count 9,1/0;", ZERO);
    }

    private static void logs() {
        Wall w = wall();
        StringBuilder text = new StringBuilder("chain a{");
        for (int i = 0; i < 25; i++) {
            Wall.due("log " + i, w.x.logged(i), NONE);
            text.append("log ").append(i).append(';');
        }
        w.judge(text + "}");
        for (int i = 0; i < 20; i++) {
            Wall.due("logged " + i, w.x.logged(i), 24 - i);
        }
        Wall.due("logged 20", w.x.logged(20), NONE);
        Wall.due("logged -1", w.x.logged(-1), NONE);
        Wall.due("how many", w.x.told(8), 25);
    }

    private static void sets() {
        Wall w = wall();
        StringBuilder text = new StringBuilder("chain a{");
        for (int i = 0; i < 17; i++) {
            text.append("learn 3,").append(i).append(';');
        }
        w.judge(text + "learn 0,0-1;}");
        Wall.due("how many", w.x.learned(3, NONE), 16);
        for (int i = 0; i < 16; i++) {
            Wall.due("the eldest went, " + i, w.x.learned(3, i), i + 1);
        }
        Wall.due("none such", w.x.learned(3, 16), NONE);
        Wall.due("none such below", w.x.learned(3, -2), NONE);
        Wall.due("set 4", w.x.learned(4, NONE), NONE);
        Wall.due("set -1", w.x.learned(-1, NONE), NONE);
        Wall.due("an empty one", w.x.learned(1, NONE), 0);
        w.judge("chain a{learn 3,5;log in(3,5);log in(3,0);log in(0,0-1);}");
        Wall.due("known already", w.x.learned(3, 4), 5);
        Wall.due("in", w.x.logged(2), 1);
        Wall.due("not in", w.x.logged(1), 0);
        Wall.due("in another", w.x.logged(0), 1);
        fails("learn 4,1;", INDEX);
        fails("log in(0-1,1);", INDEX);
    }

    private static void buckets() {
        Wall w = wall();
        Wall.due("at first", w.x.has(0), 0);
        Wall.due("bucket -1", w.x.bucket(-1, 1, 1), OUTSIDE);
        Wall.due("bucket 4", w.x.bucket(4, 1, 1), OUTSIDE);
        Wall.due("size -1", w.x.bucket(0, -1, 1), OUTSIDE);
        Wall.due("size 1001", w.x.bucket(0, 1001, 1), OUTSIDE);
        Wall.due("every 0", w.x.bucket(0, 1, 0), OUTSIDE);
        Wall.due("every 1001", w.x.bucket(0, 1, 1001), OUTSIDE);
        Wall.due("size 1000", w.x.bucket(3, 1000, 1000), 1000);
        Wall.due("size 0", w.x.bucket(2, 0, 1), 0);
        Wall.due("has -1", w.x.has(-1), OUTSIDE);
        Wall.due("has 4", w.x.has(4), OUTSIDE);
        w.x.tick(2);
        Wall.due("bucket", w.x.bucket(1, 2, 3), 2);
        w.judge("chain a{log spend(1)+spend(1)+spend(1);log spend(0);log spend(2);}");
        Wall.due("two were there", w.x.logged(2), 2);
        Wall.due("none at first", w.x.logged(1), 0);
        w.x.tick(2);
        Wall.due("not yet", w.x.has(1), 0);
        w.x.tick(1);
        Wall.due("one more", w.x.has(1), 1);
        w.x.tick(1000);
        Wall.due("never above", w.x.has(1), 2);
        w.judge("chain a{log spend(1);}");
        w.x.tick(1);
        Wall.due("every three from bucket() on", w.x.has(1), 1);
        w.x.tick(1);
        Wall.due("not from when it was spent", w.x.has(1), 2);
        Wall.due("none every tick", w.x.has(2), 0);
        w.x.bucket(0, 9, 1);
        w.x.bucket(3, 9, 2);
        w.judge("chain a{log spend(0)+spend(0)+spend(0)+spend(3)+spend(3)+spend(3);}");
        w.x.tick(2);
        Wall.due("the first", w.x.has(0), 8);
        Wall.due("the last", w.x.has(3), 7);
        fails("log spend(4);", INDEX);
    }

    private static void rowsOfNumbers() {
        Wall w = wall();
        Wall.due("nothing", w.x.rowAt(0, NONE), NONE);
        Wall.due("an item of nothing", w.x.rowAt(0, 0), NONE);
        Wall.due("row 8", w.x.rowAt(8, 0), OUTSIDE);
        Wall.due("row -1", w.x.rowAt(-1, 0), OUTSIDE);
        w.judge("chain a{fresh 0,0,3;fresh 1,1,3;fresh 2,2,3;fresh 3,3,3;fresh 4,4,3;jump b;take;}"
                + "chain b{put 0,1,65535+129;put 1,1,65536+32769;put 2,1,65536+65535;put 3,1,4294967295;put 4,1,4294967295*2;"
                + "log row(0,1);log row(1,1);log row(2,1);log row(3,1);log row(4,1);log row(0,0);log long(4);}");
        long[] want = {3, 0, 8589934590L, -1, 65535, -32767, -128};
        for (int i = 0; i < want.length; i++) {
            Wall.due("item " + i, w.x.logged(i), want[i]);
        }
        for (int k = 0; k < 5; k++) {
            Wall.due("sort " + k, w.x.rowAt(k, NONE), k);
            Wall.due("item of " + k, w.x.rowAt(k, 1), want[6 - k]);
            Wall.due("item 0 of " + k, w.x.rowAt(k, 0), 0);
            Wall.due("item 3 of " + k, w.x.rowAt(k, 3), NONE);
        }
        fails("log row(8,0);", INDEX);
        fails("log row(0,0);", NOTHING);
        fails("fresh 0,5,1;log row(0,9);", CAST);
        fails("fresh 0,3,1;log row(0,1);", INDEX);
        fails("fresh 0,3,1;log row(0,-1);", INDEX);
        fails("put 0-1,0,1;", INDEX);
        fails("put 7,0,1;", NOTHING);
        fails("fresh 7,6,1;put 7,0,1;", CAST);
        fails("fresh 7,4,1;put 7,1,1;", INDEX);
        fails("log long(8);", INDEX);
        fails("log long(0);", NOTHING);
        fails("put 9,0,1/0;", ZERO);
    }

    private static void rowsOfHeaders() {
        Wall w = wall();
        w.judge("chain a{list 2;log long(2);log head(2,1,9);log head(2,2,1);log head(2,3,0);take;}");
        long[] want = {3, 53, 10, 4};
        for (int i = 0; i < want.length; i++) {
            Wall.due("head " + i, w.x.logged(i), want[i]);
        }
        Wall.due("sort", w.x.rowAt(2, NONE), 5);
        int[] kinds = {0, 2, 9, 11, NONE};
        for (int i = 0; i < kinds.length; i++) {
            Wall.due("kind " + i, w.x.rowAt(2, i), kinds[i]);
        }
        w.x.set(0, 19, 77);
        w.packet(1, 1, 2, 0, 5);
        w.rules("chain a{log head(2,1,9);take;}");
        w.x.verdict(1);
        Wall.due("headers stay as they were", w.x.logged(0), 10);
        fails("log head(8,0,0);", INDEX);
        fails("log head(0,0,0);", NOTHING);
        fails("fresh 0,4,1;log head(0,9,9);", CAST);
        fails("list 0;log head(0,4,0);", INDEX);
        fails("list 0;log head(0,0-1,0);", INDEX);
        fails("fresh 0,5,1;log head(0,0,99);", NOTHING);
        fails("list 0;log head(0,0,3);", INDEX);
        fails("list 0;log head(0,0,0-1);", INDEX);
    }

    private static void copies() {
        Wall w = wall();
        w.judge("chain a{fresh 0,3,6;put 0,0,1;put 0,1,2;put 0,2,3;put 0,3,4;fresh 1,3,3;copy 0,1,1,0,3;copy 0,0,0,1,4;take;}");
        long[] row0 = {1, 1, 2, 3, 4, 0};
        long[] row1 = {2, 3, 4};
        for (int i = 0; i < 6; i++) {
            Wall.due("over itself, upwards, " + i, w.x.rowAt(0, i), row0[i]);
        }
        for (int i = 0; i < 3; i++) {
            Wall.due("copied " + i, w.x.rowAt(1, i), row1[i]);
        }
        Wall.due("none at the ends", w.judge("chain a{copy 0,2,0,0,4;copy 0,6,1,3,0;copy 0,5,1,2,1;take;}"), 0);
        Wall.due("over itself, downwards", w.x.rowAt(0, 0), 2);
        Wall.due("the end of it", w.x.rowAt(0, 3), 0);
        fails("copy 8,0,0,0,0;", INDEX);
        fails("copy 0,0,8,0,0;", INDEX);
        fails("copy 0,0,1,0,0;", NOTHING);
        fails("fresh 0,0,1;copy 0,0,1,0,9;", NOTHING);
        fails("fresh 0,0,1;fresh 1,1,1;copy 0,0,1,0,9;", STORE);
        fails("fresh 0,1,1;fresh 1,2,1;copy 0,0,1,0,1;", STORE);
        fails("fresh 0,4,1;fresh 1,5,1;copy 0,0,1,0,0;", STORE);
        String two = "fresh 0,3,2;fresh 1,3,2;";
        fails(two + "copy 0,0,1,0,3;", INDEX);
        fails(two + "copy 0,0-1,1,0,1;", INDEX);
        fails(two + "copy 0,0,1,0-1,1;", INDEX);
        fails(two + "copy 0,0,1,0,0-1;", INDEX);
        fails(two + "copy 0,1,1,0,2;", INDEX);
        fails(two + "copy 0,0,1,1,2;", INDEX);
        fails(two + "copy 0,3,1,0,0;", INDEX);
        fails(two + "copy 0,4294967295*2147483649,1,0,1;", INDEX);
        fails("list 0;fresh 1,6,2;copy 0,0,1,0,3;", INDEX);
        fails("list 0;fresh 1,6,2;copy 0,2,1,0,2;", STORE);
        w = wall();
        w.judge("chain a{list 0;fresh 1,6,3;try b;log failure;copy 1,0,0,0,2;fresh 2,5,1;copy 2,0,1,0,1;take;}chain b{copy 0,2,1,1,2;}");
        Wall.due("store was taken", w.x.logged(0), STORE);
        Wall.due("the one ahead has gone", w.x.rowAt(1, 1), 9);
        Wall.due("the one itself has not", w.x.rowAt(1, 2), NONE);
        Wall.due("nothing into headers", w.x.rowAt(0, 0), NONE);
        Wall.due("back into headers", w.x.rowAt(0, 1), 9);
        Wall.due("nothing into carried ones", w.x.rowAt(1, 0), NONE);
    }

    private static void freshAndList() {
        fails("fresh 8,9,0-1;", INDEX);
        fails("fresh 0,7,0-1;", SPENT);
        fails("fresh 0,0-1,0;", SPENT);
        fails("fresh 0,0,0-1;", SIZE);
        fails("fresh 0,0,41;", SPENT);
        fails("list 8;", INDEX);
        Wall w = wall();
        w.judge("chain a{fresh 0,4,40;fresh 1,6,0;put 0,39,5;take;}");
        Wall.due("40 items", w.x.rowAt(0, 39), 5);
        Wall.due("no items", w.x.rowAt(1, 0), NONE);
        Wall.due("its sort", w.x.rowAt(1, NONE), 6);
        w.judge("chain a{fresh 0,4,40;fresh 1,5,1;}");
        Wall.due("a new one", w.x.rowAt(0, 39), 0);
        Wall.due("nothing in it", w.x.rowAt(1, 0), NONE);
        w.x.drop(0);
        Wall.due("list asks its row ahead of the packet", w.judge("chain a{list 8;}"), -10 - INDEX);
    }

    private static void failures() {
        Wall w = wall();
        Wall.due("fail", w.judge("chain a{jump b;}chain b{fail 4294967295*16+5;}"), -10 - OWN);
        Wall.due("its failure", w.x.why(0), OWN);
        Wall.due("its number", w.x.why(1), -11);
        Wall.due("its chain", w.x.why(3), 1);
        Wall.due("another", w.judge("chain a{log 1/0;}"), -10 - ZERO);
        Wall.due("no number", w.x.why(1), 0);
        Wall.due("its chain", w.x.why(3), 0);
        Wall.due("failures of all", w.x.told(6), 2);
        Wall.due("none", w.judge("chain a{take;}"), 0);
        Wall.due("no failure", w.x.why(0), 0);
        Wall.due("no chain", w.x.why(3), NONE);
    }

    private static void jumps() {
        Wall w = wall();
        Wall.due("on behind a jump", w.judge("chain a{jump b;count 0,1;answer;}chain b{count 0,10;return;count 0,100;}"), 2);
        Wall.due("counted", w.x.counter(0), 11);
        Wall.due("a verdict ends all", w.judge("chain a{jump b;drop;}chain b{jump c;drop;}chain c{take;}"), 0);
        Wall.due("return within if", w.judge("chain a{jump b;answer;}chain b{if 1{if 1{return;}}take;}"), 2);
    }

    private static void tries() {
        Wall w = wall();
        Wall.due("taken", w.judge("chain a{try b;log failure;try c;log failure;take;}chain b{log 1/0;}chain c{fail 3;}"), 0);
        Wall.due("by the second", w.x.logged(0), OWN);
        Wall.due("by the first", w.x.logged(1), ZERO);
        Wall.due("no failure of the verdict", w.x.why(0), 0);
        Wall.due("both were counted", w.x.told(6), 2);
        Wall.due("of this verdict", w.judge("chain a{log failure;take;}"), 0);
        Wall.due("none yet", w.x.logged(0), 0);
        Wall.due("in another chain", w.judge("chain a{jump b;log failure;take;}chain b{try c;}chain c{log row(0,0);}"), 0);
        Wall.due("told all the same", w.x.logged(0), NOTHING);
        Wall.due("a try that takes none", w.judge("chain a{try b;try c;log failure;take;}chain b{fail 1;}chain c{log failure;}"), 0);
        Wall.due("the latest took none", w.x.logged(0), 0);
        Wall.due("nor has it taken any yet", w.x.logged(1), 0);
        Wall.due("SPENT is not taken", w.judge("chain a{try b;take;}chain b{fresh 0,0,41;}"), -10 - SPENT);
        Wall.due("through a jump", w.judge("chain a{try b;answer;}chain b{jump c;take;}chain c{fail 1;}"), 2);
        Wall.due("a verdict within", w.judge("chain a{try b;answer;}chain b{take;}"), 0);
    }

    private static void givingBack() {
        Wall w = wall();
        w.x.bucket(0, 5, 100);
        w.judge("chain a{count 0,1;learn 0,1;mark 7;log 1;log spend(0);take;}");
        Wall.due("failed", w.judge("chain a{count 0,1;learn 0,2;mark 8;log 2;log spend(0);fresh 0,0,1;try b;fail 1;}chain b{count 1,5;}"), -10 - OWN);
        Wall.due("counter", w.x.counter(0), 1);
        Wall.due("counter of a chain that did not fail", w.x.counter(1), 0);
        Wall.due("set", w.x.learned(0, NONE), 1);
        Wall.due("mark", w.x.mark(0), 7);
        Wall.due("log", w.x.logged(1), 1);
        Wall.due("how many were logged", w.x.told(8), 2);
        Wall.due("bucket", w.x.has(0), 4);
        Wall.due("rows stay", w.x.rowAt(0, NONE), 0);
        Wall.due("taken", w.judge("chain a{count 0,1;try b;count 0,10;take;}chain b{count 0,100;mark 9;log 9;fail 1;}"), 0);
        Wall.due("only what failed is given back", w.x.counter(0), 12);
        Wall.due("mark", w.x.mark(0), 7);
        StringBuilder logs = new StringBuilder();
        for (int i = 0; i < 20; i++) {
            logs.append("log ").append(i).append(';');
        }
        w.judge("chain a{" + logs + "try b;take;}chain b{log 50;log 51;fail 1;}");
        Wall.due("the log's latest", w.x.logged(0), 19);
        Wall.due("the log's eldest", w.x.logged(19), 0);
        StringBuilder learns = new StringBuilder();
        for (int i = 0; i < 16; i++) {
            learns.append("learn 3,").append(i).append(';');
        }
        w.judge("chain a{" + learns + "try b;take;}chain b{learn 3,50;fail 1;}");
        Wall.due("the eldest of a set", w.x.learned(3, 0), 0);
        Wall.due("the youngest of a set", w.x.learned(3, 15), 15);
    }

    private static void behinds() {
        Wall w = wall();
        Wall.due("behind a verdict", w.judge("chain a{count 0,1;answer;}behind{count 0,10;}"), 2);
        Wall.due("done", w.x.counter(0), 11);
        Wall.due("behind a return", w.judge("chain a{jump b;take;}chain b{return;}behind{count 1,1;}"), 0);
        Wall.due("done", w.x.counter(1), 1);
        Wall.due("behind an end", w.judge("chain a{jump b;take;}chain b{}behind{count 1,1;}"), 0);
        Wall.due("done", w.x.counter(1), 2);
        Wall.due("behind a failure", w.judge("chain a{count 2,1;fail 5;}behind{count 2,10;}"), -10 - OWN);
        Wall.due("done, the rest given back", w.x.counter(2), 10);
        Wall.due("its number", w.x.why(1), 5);
        Wall.due("behind that fails", w.judge("chain a{count 3,1;take;}behind{count 3,10;log 1/0;}"), -10 - ZERO);
        Wall.due("all is given back", w.x.counter(3), 0);
        Wall.due("but not what was there ahead of it", w.x.counter(0), 11);
        Wall.due("in place of a failure", w.judge("chain a{fail 5;}behind{log row(9,9);}"), -10 - INDEX);
        Wall.due("its number is gone", w.x.why(1), 0);
        Wall.due("both were failures", w.x.told(6), 4);
        Wall.due("a verdict that is lost", w.judge("chain a{try b;answer;}chain b{take;}behind{fail 1;}"), 2);
        Wall.due("its chain", w.judge("chain a{jump b;}behind{fail 1;}chain b{fail 2;}behind{fail 3;}"), -10 - OWN);
        Wall.due("the outermost", w.x.why(3), 0);
        Wall.due("its number", w.x.why(1), 1);
        Wall.due("if in behind", w.judge("chain a{take;}behind{if size>1{count 4,1;}else{count 4,2;}}"), 0);
        Wall.due("done", w.x.counter(4), 1);
    }

    private static void whys() {
        Wall w = wall();
        w.judge("chain a{jump b;try c;if 1{try d;}answer;}chain b{return;}chain c{fail 1;}chain d{jump b;}");
        int[] want = {3, 105, 4, 4, 303, 105, 2};
        Wall.due("how many", w.x.why(4), want.length);
        for (int i = 0; i < want.length; i++) {
            Wall.due("why " + i, w.x.why(10 + i), want[i]);
        }
        Wall.due("behind them", w.x.why(10 + want.length), NONE);
        for (int what : new int[] {-1, 5, 9, 49, 50, Integer.MAX_VALUE, Integer.MIN_VALUE}) {
            Wall.due("why " + what, w.x.why(what), NONE);
        }
        Wall.due("steps", w.x.why(2), 9);
        w.judge("chain a{drop;}");
        Wall.due("drop", w.x.why(10), 1);
        w.judge("chain a{jump b;}chain b{jump c;}chain c{answer;}");
        Wall.due("a jump of the second", w.x.why(11), 103);
        Wall.due("an answer of the third", w.x.why(12), 202);
        w.judge("chain a{take;}");
        Wall.due("take", w.x.why(10), 0);
        Wall.due("one", w.x.why(4), 1);
        w.judge("chain a{" + "jump b;".repeat(30) + "take;}chain b{return;}");
        Wall.due("40 at most", w.x.why(4), 40);
        Wall.due("the 40th", w.x.why(49), 105);
        Wall.due("a 41st", w.x.why(50), NONE);
        w.x.verdict(24);
        Wall.due("a refused one changes nothing", w.x.why(4), 40);
    }

    private static void steps() {
        Wall w = wall();
        String b = "chain b{" + "count 0,1;".repeat(19) + "}";
        Wall.due("300 steps", w.judge("chain a{" + "jump b;".repeat(14) + "jump c;}chain c{" + "count 1,1;".repeat(18) + "take;}" + b), 0);
        Wall.due("are told", w.x.why(2), 300);
        Wall.due("a 301st", w.judge("chain a{" + "jump b;".repeat(15) + "take;}" + b), -10 - SPENT);
        Wall.due("its chain", w.x.why(3), 0);
        Wall.due("the 301st is no step", w.x.why(2), 300);
        Wall.due("all is given back", w.x.counter(0), 19 * 14);
        Wall.due("a try does not take it", w.judge("chain a{" + "try b;".repeat(16) + "take;}" + b), -10 - SPENT);
        Wall.due("nor can a behind be done", w.judge("chain a{jump c;}behind{count 2,1;}chain c{" + "jump b;".repeat(16) + "}" + b), -10 - SPENT);
        Wall.due("but fails itself", w.x.why(3), 0);
        Wall.due("and counts nothing", w.x.counter(2), 0);
        Wall.due("nor is it a step", w.x.why(2), 300);
        int before = w.x.told(6);
        Wall.due("behinds of three chains", w.judge("chain a{jump c;}behind{count 2,1;count 3,1;}chain c{jump d;}behind{if 1{log 1;}}"
            + "chain d{" + "jump b;".repeat(16) + "}behind{log 1;}" + b), -10 - SPENT);
        Wall.due("add no step", w.x.why(2), 300);
        Wall.due("but fail each, as the deed did", w.x.told(6) - before, 4);
        Wall.due("the last in the first chain", w.x.why(3), 0);
        Wall.due("a deed with the 300th step is done", w.judge("chain a{" + "jump b;".repeat(14) + "jump c;}chain c{" + "count 1,1;".repeat(18)
            + "count 4,7;}" + b), 1);
        Wall.due("so many steps", w.x.why(2), 300);
        Wall.due("it counts", w.x.counter(4), 7);
    }

    private static void depths() {
        Wall w = wall();
        StringBuilder text = new StringBuilder();
        for (char c = 'a'; c < 'h'; c++) {
            text.append("chain q").append(c).append("{jump q").append((char) (c + 1)).append(";}");
        }
        Wall.due("eight chains", w.judge(text + "chain qh{take;}"), 0);
        Wall.due("seven jumps", w.x.why(4), 8);
        Wall.due("a ninth", w.judge(text + "chain qh{try qi;}chain qi{take;}"), -10 - SPENT);
        Wall.due("seven jumps alone", w.x.why(4), 7);
        Wall.due("where it arose", w.x.why(3), 7);
        Wall.due("steps", w.x.why(2), 8);
        Wall.due("a chain that jumps to itself", w.judge("chain a{count 0,1;jump a;}behind{count 1,1;}"), -10 - SPENT);
        Wall.due("given back by each", w.x.counter(0), 0);
        Wall.due("each one's behind was given back but the first's", w.x.counter(1), 1);
    }

    private static void rowsMade() {
        Wall w = wall();
        w.rules("chain a{" + "jump b;".repeat(10) + "take;}chain b{" + "fresh 0,0,1;list 1;".repeat(10) + "}");
        for (int n = 0; n < 50; n++) {
            Wall.due("200 rows, " + n, w.x.verdict(0), 0);
        }
        Wall.due("the 10001st", w.judge("chain a{fresh 0,0,1;}"), -10 - SPENT);
        Wall.due("a listed one", w.judge("chain a{list 0;}"), -10 - SPENT);
        Wall.due("below 0", w.judge("chain a{fresh 0,0,0-1;}"), -10 - SIZE);
    }

    private static void manyFailures() {
        Wall w = wall();
        w.rules("chain a{" + "try b;".repeat(100) + "answer;}chain b{fail 1;}");
        for (int n = 1; n < 20; n++) {
            Wall.due("100 failures", w.x.verdict(0), 2);
            Wall.due("failures of all", w.x.told(6), 100 * n);
        }
        w.judge("chain a{" + "try b;".repeat(99) + "answer;}chain b{fail 1;}");
        Wall.due("1999", w.x.told(6), 1999);
        Wall.due("the 2001st is SPENT", w.judge("chain a{try b;try b;answer;}chain b{fail 1;}"), -10 - SPENT);
        Wall.due("it is not counted", w.x.told(6), 2000);
        Wall.due("it has no number", w.x.why(1), 0);
        Wall.due("no verdict any more", w.x.verdict(0), STATE);
        Wall.due("outside all the same", w.x.verdict(24), OUTSIDE);
        Wall.due("the latest stays", w.x.why(0), SPENT);
    }
}
