import java.util.function.Consumer;

/** Each boundary of chains: steps, depth, what is given back, behinds, tries, WHY, 2000 FAILURES: promises 29, 30, 37, 41. */
public final class EdgeChainTest {
    private static final int NONE = PacketWall.NONE, OUTSIDE = PacketWall.OUTSIDE, STATE = PacketWall.STATE;
    private static final int NOTHING = 1, INDEX = 2, ZERO = 6, OWN = 7, SPENT = 8;
    private static final int LEAST = Integer.MIN_VALUE, MOST = Integer.MAX_VALUE;

    public static void main(String[] args) {
        whyNumbers();
        whyOfEachDeed();
        fortyOfWhy();
        threeHundredSteps();
        the301stOfEachDeed();
        the301stInABehind();
        stepsOfEachVerdict();
        withinEightOthers();
        chainsOneBehindTheOther();
        whatEnteringFails();
        theFirstThatIsMet();
        whatIsGivenBack();
        whatIsGivenBackOfAFullLog();
        whatIsGivenBackOfAFullSet();
        whatAChainWithinAChainGivesBack();
        behindOnEachWayOut();
        behindThatFails();
        behindOfEachChain();
        whatATryTakes();
        failureOfTheLatestTry();
        failuresAreCounted();
        twoThousandFailures();
        anyFailureBehind2000();
        Wall.finish();
    }

    private static Wall wall() {
        return Wall.fresh().packet(0, Wall.link(4, Wall.four(17, 10, 11, Wall.datagram(1000, 53, Wall.b(5, 6, 255)))));
    }

    private static void whyIs(String what, Wall w, int... want) {
        Wall.due(what + ": how many", w.x.why(4), want.length);
        for (int i = 0; i < want.length; i++) {
            Wall.due(what + ": why " + i, w.x.why(10 + i), want[i]);
        }
        Wall.due(what + ": behind them", w.x.why(10 + want.length), NONE);
    }

    // ---- why

    private static void whyNumbers() {
        int[] none = {-1, 5, 6, 9, 11, 49, 50, LEAST, MOST};
        Wall w = Wall.fresh();
        for (int what = 0; what <= 10; what++) {
            Wall.due("why " + what + " ahead of any", w.x.why(what), NONE);
        }
        w.judge("chain a{take;}");
        for (int what : none) {
            Wall.due("why " + what, w.x.why(what), NONE);
        }
        int[] want = {0, 0, 1, NONE, 1};
        for (int what = 0; what <= 4; what++) {
            Wall.due("why " + what, w.x.why(what), want[what]);
        }
        Wall.due("why 10", w.x.why(10), 0);
        w.judge("chain a{}");
        Wall.due("none of it", w.x.why(10), NONE);
        Consumer<Wall> failed = v -> v.judge("chain a{jump b;}chain b{fail 5;}");
        Wall.refused("verdict 24 behind one that failed", failed, x -> x.verdict(24), OUTSIDE);
        w.judge("chain a{jump b;}chain b{fail 5;}");
        int[] told = {OWN, 5, 2, 1, 1};
        for (int what = 0; what <= 4; what++) {
            Wall.due("of one that failed, why " + what, w.x.why(what), told[what]);
        }
    }

    private static void whyOfEachDeed() {
        Wall w = wall();
        Wall.due("take", w.judge("chain a{take;drop;}"), 0);
        whyIs("take", w, 0);
        Wall.due("drop", w.judge("chain a{drop;take;}"), 1);
        whyIs("drop", w, 1);
        Wall.due("answer", w.judge("chain a{answer;take;}"), 2);
        whyIs("answer", w, 2);
        Wall.due("return", w.judge("chain a{return;take;}"), 1);
        whyIs("return", w, 5);
        Wall.due("jump, try", w.judge("chain a{jump b;try b;}chain b{}"), 1);
        whyIs("jump, try", w, 3, 4);
        Wall.due("others are none", w.judge("chain a{if 1{log 1;}count 1,1;mark 1;learn 1,1;fresh 1,1,1;put 1,0,1;copy 1,0,1,0,1;list 1;}"), 1);
        whyIs("others", w);
        StringBuilder text = new StringBuilder("chain qa{");
        for (int c = 1; c < 16; c++) {
            text.append("jump q").append((char) ('a' + c)).append(';');
        }
        text.append('}');
        for (int c = 1; c < 16; c++) {
            text.append("chain q").append((char) ('a' + c)).append(c == 15 ? "{answer;}" : "{return;}");
        }
        Wall.due("sixteen chains", w.judge(text.toString()), 2);
        Wall.due("the last chain's deed", w.x.why(10 + 29), 1502);
        Wall.due("the one before", w.x.why(10 + 27), 1405);
        Wall.due("what was done in a chain that failed", w.judge("chain a{try b;take;}chain b{jump c;fail 1;}chain c{return;}"), 0);
        whyIs("failed", w, 4, 103, 205, 0);
        Wall.due("a verdict that its behind lost", w.judge("chain a{try b;take;}chain b{drop;}behind{fail 1;}"), 0);
        whyIs("lost", w, 4, 101, 0);
    }

    private static void fortyOfWhy() {
        Wall w = wall();
        w.judge("chain a{" + "jump b;".repeat(39) + "take;}chain b{}");
        Wall.due("40", w.x.why(4), 40);
        Wall.due("the 39th", w.x.why(48), 3);
        Wall.due("the 40th", w.x.why(49), 0);
        Wall.due("behind it", w.x.why(50), NONE);
        Wall.due("41 deeds", w.judge("chain a{" + "jump b;".repeat(40) + "take;}chain b{}"), 0);
        Wall.due("40 of them", w.x.why(4), 40);
        Wall.due("the first 40", w.x.why(49), 3);
        Wall.due("no 41st", w.x.why(50), NONE);
        w.judge("chain a{" + "jump b;".repeat(38) + "answer;}chain b{}");
        Wall.due("39", w.x.why(4), 39);
        Wall.due("no 40th", w.x.why(49), NONE);
    }

    // ---- steps

    /** So many steps, all in chain b and behind jumps of chain a; then the deeds, in chain a. */
    private static String stepsThen(int steps, String deeds) {
        StringBuilder text = new StringBuilder("chain a{");
        for (int i = 0; i < steps / 20; i++) {
            text.append("jump b;");
        }
        for (int i = 0; i < steps % 20; i++) {
            text.append("mark 1;");
        }
        return text + deeds + "}chain b{" + "mark 1;".repeat(19) + "}";
    }

    private static void threeHundredSteps() {
        Wall w = wall();
        Wall.due("299 and take", w.judge(stepsThen(299, "take;")), 0);
        Wall.due("steps", w.x.why(2), 300);
        Wall.due("300 and the end", w.judge(stepsThen(300, "")), 1);
        Wall.due("steps", w.x.why(2), 300);
        Wall.due("no failure", w.x.why(0), 0);
        Wall.due("300 and take", w.judge(stepsThen(300, "take;")), -10 - SPENT);
        Wall.due("steps", w.x.why(2), 300);
        Wall.due("its chain", w.x.why(3), 0);
        Wall.due("no number", w.x.why(1), 0);
        Wall.due("the take was not done", w.x.why(4), 15);
        Wall.due("in another chain", w.judge(stepsThen(299, "jump c;") + "chain c{take;}"), -10 - SPENT);
        Wall.due("which is that", w.x.why(3), 2);
        whyDone("the jump was done", w, 15);
        Wall.due("a try takes it not", w.judge(stepsThen(298, "try c;take;") + "chain c{log 1;log 2;log 3;}"), -10 - SPENT);
        Wall.due("arose in c", w.x.why(3), 2);
        Wall.due("an if is a step", w.judge(stepsThen(298, "if 1{take;}")), 0);
        Wall.due("steps", w.x.why(2), 300);
        Wall.due("an if is the 300th, then", w.judge(stepsThen(299, "if 1{take;}")), -10 - SPENT);
        Wall.due("an if is the 300th and has none", w.judge(stepsThen(299, "if 0{take;}")), 1);
        Wall.due("a chain's end is none", w.judge(stepsThen(299, "jump c;") + "chain c{}"), 1);
    }

    private static void whyDone(String what, Wall w, int n) {
        Wall.due(what, w.x.why(4), n);
    }

    private static void the301stOfEachDeed() {
        String[] deeds = {"take;", "drop;", "answer;", "return;", "jump b;", "try b;", "mark 7;", "count 0,1;", "log 1;", "learn 0,1;", "put 8,0,0;", "copy 8,0,8,0,0;", "fresh 8,0,0;",
            "list 8;", "fail 3;", "if 1/0{}"};
        for (String deed : deeds) {
            Wall w = wall();
            Wall.due("the 301st: " + deed, w.judge(stepsThen(300, deed)), -10 - SPENT);
            Wall.due("steps", w.x.why(2), 300);
            Wall.due("no number of " + deed, w.x.why(1), 0);
            Wall.due("done", w.x.why(4), 15);
            Wall.due("the mark is given back", w.x.mark(0), 0);
            Wall.due("one failure", w.x.told(6), 1);
            Wall.due("nothing logged", w.x.told(8), 0);
        }
    }

    private static void the301stInABehind() {
        Wall w = wall();
        String b = "chain b{" + "mark 1;".repeat(19) + "}";
        Wall.due("299 and one in behind", w.judge("chain a{" + "jump b;".repeat(14) + "mark 1;".repeat(19) + "}behind{count 0,1;}" + b), 1);
        Wall.due("steps", w.x.why(2), 300);
        Wall.due("it was done", w.x.counter(0), 1);
        Wall.due("300 and one in behind", w.judge("chain a{" + "jump b;".repeat(15) + "}behind{count 0,1;}" + b), -10 - SPENT);
        Wall.due("steps", w.x.why(2), 300);
        Wall.due("it was not done", w.x.counter(0), 1);
        Wall.due("its chain", w.x.why(3), 0);
        Wall.due("300 and a behind without a deed", w.judge("chain a{" + "jump b;".repeat(15) + "}behind{}" + b), 1);
        Wall.due("a verdict is lost by it", w.judge("chain a{" + "jump b;".repeat(14) + "mark 1;".repeat(19) + "take;}behind{count 0,1;}" + b), -10 - SPENT);
        Wall.due("the take was done", w.x.why(10 + 14), 0);
        int failures = w.x.told(6);
        Wall.due("the 301st, then a behind", w.judge("chain a{" + "jump b;".repeat(15) + "take;}behind{count 0,1;}" + b), -10 - SPENT);
        Wall.due("two failures", w.x.told(6) - failures, 2);
        Wall.due("steps", w.x.why(2), 300);
    }

    private static void stepsOfEachVerdict() {
        Wall w = wall();
        w.rules(stepsThen(300, ""));
        for (int n = 0; n < 3; n++) {
            Wall.due("each verdict has its own", w.x.verdict(0), 1);
            Wall.due("steps", w.x.why(2), 300);
        }
    }

    // ---- chains within chains

    /** Chains qa, qb, .. each of which goes into the next; the last one has the deeds. */
    private static String nested(int chains, String how, String deeds) {
        StringBuilder text = new StringBuilder();
        for (int c = 0; c < chains - 1; c++) {
            text.append("chain q").append((char) ('a' + c)).append('{').append(how).append(" q").append((char) ('b' + c)).append(";}");
        }
        return text + "chain q" + (char) ('a' + chains - 1) + "{" + deeds + "}";
    }

    private static void withinEightOthers() {
        for (String how : new String[] {"jump", "try"}) {
            Wall w = wall();
            Wall.due("a chain within 7 others, " + how, w.judge(nested(8, how, "answer;")), 2);
            Wall.due("done", w.x.why(4), 8);
            Wall.due("a chain within 8 others, " + how, w.judge(nested(9, how, "answer;")), -10 - SPENT);
            Wall.due("done", w.x.why(4), 7);
            Wall.due("the seventh", w.x.why(16), 600 + (how.equals("jump") ? 3 : 4));
            Wall.due("steps", w.x.why(2), 8);
            Wall.due("arose where the " + how + " is", w.x.why(3), 7);
            Wall.due("one failure", w.x.told(6), 1);
        }
        Wall w = wall();
        Wall.due("a chain within itself", w.judge("chain a{count 0,1;jump a;}"), -10 - SPENT);
        Wall.due("eight times", w.x.why(2), 16);
        Wall.due("all is given back", w.x.counter(0), 0);
        Wall.due("seven jumps", w.x.why(4), 7);
    }

    private static void chainsOneBehindTheOther() {
        Wall w = wall();
        Wall.due("each at the eighth place", w.judge(nested(7, "jump", "jump z;jump z;try z;answer;") + "chain z{return;}"), 2);
        Wall.due("done", w.x.why(4), 6 + 6 + 1);
        Wall.due("behind a try that took one", w.judge(nested(7, "jump", "try z;try z;jump y;answer;") + "chain z{fail 1;}chain y{}"), 2);
        Wall.due("many at the second place", w.judge("chain a{" + "jump b;".repeat(100) + "answer;}chain b{}"), 2);
    }

    private static void whatEnteringFails() {
        Wall w = wall();
        Wall.due("what the ninth would do", w.judge(nested(9, "jump", "count 0,1;") + "behind{count 1,1;}"), -10 - SPENT);
        Wall.due("is not done", w.x.counter(0), 0);
        Wall.due("nor its behind", w.x.counter(1), 0);
        StringBuilder text = new StringBuilder();
        for (int c = 0; c < 8; c++) {
            text.append("chain q").append((char) ('a' + c)).append("{count 0,1;jump q").append((char) ('b' + c)).append(";}behind{count 1,1;}");
        }
        Wall.due("all eight around it fail", w.judge(text + "chain qi{}"), -10 - SPENT);
        Wall.due("what they did is given back", w.x.counter(0), 0);
        Wall.due("their behinds were done, but each but the first's was given back", w.x.counter(1), 1);
    }

    private static void theFirstThatIsMet() {
        Wall w = wall();
        Wall.due("the first chain begins", w.judge("chain z{answer;}chain a{take;}"), 2);
        Wall.due("a verdict in a chain ends all", w.judge("chain a{jump b;answer;}chain b{try c;answer;}chain c{if 1{take;}drop;}"), 0);
        Wall.due("return ends its chain alone", w.judge("chain a{jump b;answer;}chain b{if 1{if 1{return;}}take;}"), 2);
        Wall.due("the first chain ends without", w.judge("chain a{jump b;}chain b{return;}"), 1);
        Wall.due("return of the first chain", w.judge("chain a{return;take;}"), 1);
    }

    // ---- what is given back

    private static final String DO_ALL = "count 3,5;learn 2,5;mark 5;log 5;log spend(1);fresh 4,3,5;put 4,4,5;";

    private static Consumer<Wall> before() {
        return w -> {
            w.packet(0, Wall.link(5, Wall.b()));
            w.x.bucket(1, 3, 100);
            w.judge("chain a{count 3,1;learn 2,1;mark 1;log 1;log spend(1);fresh 4,3,5;put 4,4,5;}");
        };
    }

    private static void asBefore(String what, Wall w) {
        Wall.due(what + ": counter", w.x.counter(3), 1);
        Wall.due(what + ": set", w.x.learned(2, NONE), 1);
        Wall.due(what + ": mark", w.x.mark(0), 1);
        Wall.due(what + ": how many were logged", w.x.told(8), 2);
        Wall.due(what + ": the log", w.x.logged(1), 1);
        Wall.due(what + ": no more of the log", w.x.logged(2), NONE);
        Wall.due(what + ": bucket", w.x.has(1), 2);
    }

    private static void asDone(String what, Wall w) {
        Wall.due(what + ": counter", w.x.counter(3), 6);
        Wall.due(what + ": set", w.x.learned(2, 1), 5);
        Wall.due(what + ": mark", w.x.mark(0), 5);
        Wall.due(what + ": how many were logged", w.x.told(8), 4);
        Wall.due(what + ": bucket", w.x.has(1), 1);
    }

    private static Wall after(String text, int answer) {
        Wall w = Wall.fresh();
        before().accept(w);
        Wall.due(text, w.judge(text), answer);
        return w;
    }

    private static void whatIsGivenBack() {
        asDone("done", after("chain a{" + DO_ALL + "}", 1));
        for (String end : new String[] {"fail 1;", "log 1/0;", "log row(0,0);", "log byte(99);", "fresh 0,0,0-1;", "fresh 0,0,41;", "log row(8,0);"}) {
            Wall w = Wall.fresh();
            before().accept(w);
            Wall.due("failed by " + end, w.judge("chain a{" + DO_ALL + end + "}") <= -11 ? 1 : 0, 1);
            asBefore("given back by " + end, w);
        }
        Wall w = after("chain a{fresh 4,4,1;put 4,0,9;fail 1;}", -10 - OWN);
        Wall.due("ROWS stay", w.x.rowAt(4, NONE), 4);
        Wall.due("their items, too", w.x.rowAt(4, 0), 9);
        w = after("chain a{try b;take;}chain b{" + DO_ALL + "fail 1;}", 0);
        asBefore("by a chain that was tried", w);
        w = after("chain a{" + DO_ALL + "try b;take;}chain b{count 3,50;learn 2,50;mark 50;log 50;log spend(1);fail 1;}", 0);
        asDone("by a chain that was tried, not by the one around it", w);
        w = after("chain a{" + DO_ALL + "jump b;}chain b{fail 1;}", -10 - OWN);
        asBefore("by a jump, the one around it, too", w);
        w = after("chain a{mark 1/0;}", -10 - ZERO);
        asBefore("nothing was done", w);
    }

    private static void whatIsGivenBackOfAFullLog() {
        Wall w = wall();
        StringBuilder logs = new StringBuilder();
        for (int i = 0; i < 25; i++) {
            logs.append("log ").append(i).append(';');
        }
        w.judge("chain a{" + logs + "try b;take;}chain b{" + logs.toString().replace("log ", "log 10") + "fail 1;}");
        Wall.due("how many", w.x.told(8), 25);
        for (int i = 0; i < 20; i++) {
            Wall.due("the latest but " + i, w.x.logged(i), 24 - i);
        }
        Wall.due("no 21st", w.x.logged(20), NONE);
    }

    private static void whatIsGivenBackOfAFullSet() {
        Wall w = wall();
        StringBuilder learns = new StringBuilder();
        for (int i = 0; i < 16; i++) {
            learns.append("learn 3,").append(i).append(';');
        }
        w.judge("chain a{" + learns + "try b;take;}chain b{learn 3,50;learn 3,51;fail 1;}");
        Wall.due("how many", w.x.learned(3, NONE), 16);
        for (int i = 0; i < 16; i++) {
            Wall.due("number " + i, w.x.learned(3, i), i);
        }
    }

    private static void whatAChainWithinAChainGivesBack() {
        Wall w = after("chain a{try b;take;}chain b{jump c;try d;fail 1;}chain c{" + DO_ALL + "}chain d{" + DO_ALL + "}", 0);
        asBefore("what those within did", w);
        w = after("chain a{jump c;try b;take;}chain b{count 3,50;fail 1;}chain c{" + DO_ALL + "}", 0);
        asDone("what was done ahead of it stays", w);
        Wall v = wall();
        v.judge("chain a{count 0,1;try b;count 0,10;take;}chain b{count 0,100;try c;count 0,1000;fail 1;}chain c{count 0,10000;fail 2;}");
        Wall.due("each what it did", v.x.counter(0), 11);
    }

    // ---- behinds

    private static void behindOnEachWayOut() {
        String[] ends = {"", "return;", "take;", "drop;", "answer;", "fail 1;", "log 1/0;", "fresh 0,0,41;", "jump c;", "jump d;", "try c;", "try e;", "jump e;"};
        int[] answers = {2, 2, 0, 1, 2, -17, -16, -18, 0, 2, 0, 2, -17};
        for (int i = 0; i < ends.length; i++) {
            Wall w = wall();
            String text = "chain a{jump b;answer;}chain b{" + ends[i] + "}behind{log 77;}chain c{take;}chain d{}chain e{fail 1;}";
            Wall.due("behind " + ends[i], w.judge(text), answers[i]);
            Wall.due("b's behind was done, " + ends[i], w.x.told(8), answers[i] < 0 ? 0 : 1);
            w = wall();
            text = "chain b{" + ends[i] + "}behind{log 77;}chain c{take;}chain d{}chain e{fail 1;}";
            w.judge(text);
            Wall.due("the first chain's behind was done, " + ends[i], w.x.told(8), 1);
        }
        Wall w = wall();
        w.judge("chain a{count 0,1;fail 1;}behind{count 0,10;mark mark+2;}");
        Wall.due("what a behind does in a chain that failed stays", w.x.counter(0), 10);
        Wall.due("its mark", w.x.mark(0), 2);
    }

    private static void behindThatFails() {
        String[] ends = {"", "return;", "take;", "fail 5;", "fresh 0,0,41;"};
        for (String end : ends) {
            Wall w = Wall.fresh();
            before().accept(w);
            Wall.due("behind that fails, " + end, w.judge("chain a{" + DO_ALL + end + "}behind{" + DO_ALL + "log 1/0;}"), -10 - ZERO);
            asBefore("all is given back, " + end, w);
            Wall.due("this failure goes on", w.x.why(0), ZERO);
            Wall.due("no number of the other", w.x.why(1), 0);
            Wall.due("failures", w.x.told(6), end.startsWith("f") ? 2 : 1);
        }
        Wall w = after("chain a{try b;answer;}chain b{" + DO_ALL + "take;}behind{fail 9;}", 2);
        asBefore("a try takes it", w);
        Wall.due("no failure", w.x.why(0), 0);
        w = after("chain a{try b;take;}chain b{fresh 0,0,41;}behind{fail 9;}", 0);
        asBefore("in place of 8, which is not taken, one that is", w);
        Wall.due("8 in place of one that would be taken", after("chain a{try b;take;}chain b{fail 9;}behind{fresh 0,0,41;}", -10 - SPENT).x.why(3), 1);
        Wall v = wall();
        Wall.due("it is done up to there", v.judge("chain a{}behind{fresh 0,0,3;log 1/0;fresh 1,0,3;}"), -10 - ZERO);
        Wall.due("its ROW stays", v.x.rowAt(0, NONE), 0);
        Wall.due("what comes then is not done", v.x.rowAt(1, NONE), NONE);
    }

    private static void behindOfEachChain() {
        Wall w = wall();
        w.judge("chain a{jump b;}behind{log 1;}chain b{jump c;}behind{log 2;}chain c{take;}behind{log 3;}");
        for (int i = 0; i < 3; i++) {
            Wall.due("from within, " + i, w.x.logged(i), i + 1);
        }
        w.judge("chain a{try b;log 4;}behind{log 5;}chain b{log 1;jump c;}behind{log 3;}chain c{fail 1;}behind{log 2;}");
        Wall.due("ahead of what comes behind a try", w.x.logged(2), 3);
        Wall.due("the one that the failing chain around gave back", w.x.told(8), 6);
        Wall.due("failed twice", w.judge("chain a{jump b;}behind{fail 1;}chain b{fail 2;}behind{fail 3;}"), -10 - OWN);
        Wall.due("the last one's number", w.x.why(1), 1);
        Wall.due("the last one's chain", w.x.why(3), 0);
        Wall.due("a chain without behind", w.judge("chain a{jump b;}chain b{fail 2;}behind{fail 3;}"), -10 - OWN);
        Wall.due("its number", w.x.why(1), 3);
        Wall.due("its chain", w.x.why(3), 1);
    }

    // ---- tries

    private static void whatATryTakes() {
        String[] deeds = {"log six.mark;", "log byte(99);", "fresh 0,0,0-1;", "fresh 0,5,1;log row(0,0);", "fresh 0,0,1;fresh 1,1,1;copy 0,0,1,0,1;", "log 1/0;", "fail 3;"};
        for (int i = 0; i < deeds.length; i++) {
            Wall w = wall();
            Wall.due("taken: " + (i + 1), w.judge("chain a{try b;log failure;take;}chain b{" + deeds[i] + "}"), 0);
            Wall.due("its number", w.x.logged(0), i + 1);
            Wall.due("why 0", w.x.why(0), 0);
            Wall.due("why 1", w.x.why(1), 0);
            Wall.due("why 3", w.x.why(3), NONE);
        }
        for (String deed : new String[] {"fresh 0,0,41;", "fresh 0,7,1;", "jump b;"}) {
            Wall w = wall();
            Wall.due("not taken: " + deed, w.judge("chain a{try b;take;}chain b{" + deed + "}"), -10 - SPENT);
        }
        Wall w = wall();
        Wall.due("by the nearest try", w.judge("chain a{try b;drop;}chain b{try c;take;}chain c{jump d;}chain d{fail 1;}"), 0);
        Wall.due("a failure behind a try", w.judge("chain a{try b;fail 4;}chain b{fail 3;}"), -10 - OWN);
        Wall.due("its own number", w.x.why(1), 4);
    }

    private static void failureOfTheLatestTry() {
        Wall w = wall();
        w.judge("chain a{log failure;try b;log failure;try c;log failure;}chain b{fail 1;}chain c{log 1/0;}");
        long[] want = {ZERO, OWN, 0};
        for (int i = 0; i < want.length; i++) {
            Wall.due("failure " + i, w.x.logged(i), want[i]);
        }
        w.rules("chain a{log failure;}");
        w.x.verdict(0);
        Wall.due("not of the verdict before", w.x.logged(0), 0);
        w.judge("chain a{jump b;log failure;}chain b{try c;}chain c{log byte(99);}");
        Wall.due("in whatever chain", w.x.logged(0), INDEX);
        w.judge("chain a{try c;jump b;}chain b{log failure;}chain c{log six.mark;}");
        Wall.due("in a chain that is entered then", w.x.logged(0), NOTHING);
        w.judge("chain a{try c;}behind{log failure;}chain c{fail 1;}");
        Wall.due("in a behind", w.x.logged(0), OWN);
        Wall.due("a try that took none", w.judge("chain a{try b;try c;log failure;}chain b{fail 1;}chain c{}"), 1);
        Wall.due("the latest took none", w.x.logged(0), 0);
    }

    // ---- failures

    private static void failuresAreCounted() {
        Wall w = wall();
        w.judge("chain a{try b;try c;jump d;}chain b{fail 1;}behind{fail 2;}chain c{log 1/0;}chain d{jump e;}chain e{fresh 0,0,41;}");
        Wall.due("two, one, and one that goes through three chains", w.x.told(6), 4);
        w.judge("chain a{take;}");
        Wall.due("none", w.x.told(6), 4);
    }

    private static Wall failed(int n) {
        Wall w = wall();
        w.rules("chain a{" + "try b;".repeat(100) + "answer;}chain b{fail 1;}");
        for (int i = 0; i < n / 100; i++) {
            Wall.due("100 failures", w.x.verdict(0), 2);
        }
        Wall.due("the rest", w.judge("chain a{" + "try b;".repeat(n % 100) + "answer;}chain b{fail 1;}"), 2);
        Wall.due("failures", w.x.told(6), n);
        return w;
    }

    private static void twoThousandFailures() {
        Wall w = failed(1999);
        Wall.due("a verdict still", w.judge("chain a{take;}"), 0);
        Wall.due("the 2000th", w.judge("chain a{jump b;}chain b{fail 5;}"), -10 - OWN);
        Wall.due("its number", w.x.why(1), 5);
        Wall.due("2000", w.x.told(6), 2000);
        Wall.due("no verdict more", w.x.verdict(0), STATE);
        Wall.due("rules all the same", w.rules("chain a{take;}"), 1);
        Wall.due("which are of no use", w.x.verdict(0), STATE);
        Wall.due("outside comes first", w.x.verdict(24), OUTSIDE);
        Wall.due("why stays", w.x.why(1), 5);
        Wall.due("its chain stays", w.x.why(3), 1);
        Consumer<Wall> before = v -> {
            v.packet(0, Wall.link(5, Wall.b()));
            v.rules("chain a{" + "try b;".repeat(100) + "answer;}chain b{fail 1;}");
            for (int i = 0; i < 20; i++) {
                v.x.verdict(0);
            }
        };
        Wall.refused("nothing changes", before, x -> x.verdict(0), STATE);
        w = failed(1999);
        Wall.due("the 2000th is taken", w.judge("chain a{try b;log failure;take;}chain b{fail 5;}"), 0);
        Wall.due("its number", w.x.logged(0), OWN);
    }

    private static void anyFailureBehind2000() {
        String[] deeds = {"log six.mark;", "log byte(99);", "fresh 0,0,0-1;", "fresh 0,5,1;log row(0,0);", "log 1/0;", "fail 3;", "fresh 0,0,41;"};
        for (String deed : deeds) {
            Wall w = failed(1999);
            Wall.due("2001st: " + deed, w.judge("chain a{count 0,1;try b;try c;take;}chain b{fail 5;}chain c{" + deed + "}"), -10 - SPENT);
            Wall.due("not counted", w.x.told(6), 2000);
            Wall.due("why 0", w.x.why(0), SPENT);
            Wall.due("no number", w.x.why(1), 0);
            Wall.due("its chain", w.x.why(3), 2);
            Wall.due("given back", w.x.counter(0), 0);
        }
        Wall w = failed(1999);
        Wall.due("in a behind", w.judge("chain a{try b;take;}chain b{fail 5;}behind{fail 6;}"), -10 - SPENT);
        Wall.due("not counted", w.x.told(6), 2000);
        Wall.due("no number", w.x.why(1), 0);
        w = failed(1998);
        Wall.due("the 2000th in a behind", w.judge("chain a{try b;take;}chain b{fail 5;}behind{fail 6;}"), 0);
        Wall.due("2000", w.x.told(6), 2000);
    }
}
