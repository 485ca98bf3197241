/** Promises 27 and 28: the text of rules, its faults and their places. */
public final class RuleTextTest {
    private static final int NONE = PacketWall.NONE;

    public static void main(String[] args) {
        rightTexts();
        noTokens();
        misplaced();
        tooMuch();
        namesAndFields();
        numbers();
        missingChains();
        whatStays();
        Wall.finish();
    }

    private static void rightTexts() {
        Wall.rightText("chain a{}", 1, 0);
        Wall.rightText("\n chain\na { } behind { }\n", 1, 0);
        Wall.rightText("chain a{}chain b{}behind{}chain c{}", 3, 0);
        Wall.rightText("chain a{take;drop;answer;return;jump a;try a;}", 1, 6);
        Wall.rightText("chain a{mark 1;count 1,2;log 1;learn 1,2;put 1,2,3;copy 1,2,3,4,5;fresh 1,2,3;list 1;fail 1;}", 1, 9 + 19);
        Wall.rightText("chain a{}behind{mark 1;count 1,2;log 1;learn 1,2;put 1,2,3;copy 1,2,3,4,5;fresh 1,2,3;list 1;fail 1;if 1{}}", 1, 9 + 19 + 2);
        Wall.rightText("chain a{if 1{}}", 1, 2);
        Wall.rightText("chain a{if 1{take;}else{if 2{}else{drop;}}}", 1, 6);
        Wall.rightText("chain a{log 1+2-3*4/5%6;}", 1, 12);
        Wall.rightText("chain a{log 1|2&3=4;log 1<2;log 1>2;}", 1, 8 + 8);
        Wall.rightText("chain a{log ((1));log -1;log !1;log --!1;}", 1, 2 + 3 + 3 + 5);
        Wall.rightText("chain a{log mark;log time;log size;log flow;log state;log failure;}", 1, 12);
        Wall.rightText("chain a{log has(rest);log byte(1);log spend(1);log long(1);log in(1,2);log row(1,2);log head(1,2,3);}", 1, 7 + 1 + 2 + 2 + 2 + 3 + 3 + 4);
        Wall.rightText("chain a{log net.mark+net.life+net.next+net.from+net.to+carried.sum;}", 1, 12);
        Wall.rightText("chain from{jump to;}chain to{jump sequence;}chain sequence{}", 3, 2);
        Wall.rightText("chain a{log12;}", 1, 2);
        Wall.rightText("chain abcdefghi{jump abcdefghi;}", 1, 1);
        Wall.rightText("chain a{log 4294967295;log 0000000001;}", 1, 4);
        String[] kinds = {"link to from kind", "tag rank id kind", "four words mark total number flags offset life next sum from to",
            "six mark length next life label from to", "hops next n", "route next n left", "part next offset more number",
            "control type code sum rest", "stream from to sequence ack words flags window sum", "datagram from to length sum",
            "tunnel flags kind", "rest bytes", "net mark life next from to", "carried sum"};
        for (String line : kinds) {
            String[] words = line.split(" ");
            for (int f = 1; f < words.length; f++) {
                Wall.rightText("chain a{log has(" + words[0] + ")+" + words[0] + "." + words[f] + ";}", 1, 4);
            }
        }
    }

    private static void noTokens() {
        Wall.wrongText("^@", 1);
        Wall.wrongText("chain a{^\t}", 1);
        Wall.wrongText("chain ^A{}", 1);
        Wall.wrongText("chain ^abcdefghij{}", 1);
        Wall.wrongText("chain a{log ^12345678901;}", 1);
        Wall.wrongText("chain a{log four.^abcdefghij;}", 1);
        Wall.wrongText("chain a{}^\u00ff", 1);
        Wall.wrongText("chain a{take;}^\"", 1);
    }

    private static void misplaced() {
        Wall.wrongText("^", 2);
        Wall.wrongText(" \n^", 2);
        Wall.wrongText("^a", 2);
        Wall.wrongText("chain^", 2);
        Wall.wrongText("chain ^chain{}", 2);
        Wall.wrongText("chain ^rest{}", 2);
        Wall.wrongText("chain ^mark{}", 2);
        Wall.wrongText("chain ^1{}", 2);
        Wall.wrongText("chain a^", 2);
        Wall.wrongText("chain a ^;", 2);
        Wall.wrongText("chain a{^", 2);
        Wall.wrongText("chain a{take^}", 2);
        Wall.wrongText("chain a{^mine;}", 2);
        Wall.wrongText("chain a{}behind{}^behind{}", 2);
        Wall.wrongText("chain a{}^else{}", 2);
        Wall.wrongText("chain a{^else{}}", 2);
        Wall.wrongText("chain a{jump ^take;}", 2);
        Wall.wrongText("chain a{jump ^;}", 2);
        Wall.wrongText("chain a{log ^;}", 2);
        Wall.wrongText("chain a{log 1=2^=3;}", 2);
        Wall.wrongText("chain a{log 1|2=3^=4;}", 2);
        Wall.wrongText("chain a{log 1 ^2;}", 2);
        Wall.wrongText("chain a{log ^[1];}", 2);
        Wall.wrongText("chain a{log (1^;}", 2);
        Wall.wrongText("chain a{log ^take;}", 2);
        Wall.wrongText("chain a{log ^mine;}", 2);
        Wall.wrongText("chain a{log four^;}", 2);
        Wall.wrongText("chain a{log four.^1;}", 2);
        Wall.wrongText("chain a{log has(^mark);}", 2);
        Wall.wrongText("chain a{log has(four^.next);}", 2);
        Wall.wrongText("chain a{log byte ^1;}", 2);
        Wall.wrongText("chain a{log in(1^);}", 2);
        Wall.wrongText("chain a{log byte(1^,2);}", 2);
        Wall.wrongText("chain a{count 1^;}", 2);
        Wall.wrongText("chain a{copy 1,2,3,4^;}", 2);
        Wall.wrongText("chain a{if 1 ^take;}", 2);
        Wall.wrongText("chain a{log 1+^*2;}", 2);
        for (String deed : new String[] {"take;", "drop;", "answer;", "return;", "jump a;", "try a;"}) {
            Wall.wrongText("chain a{}behind{^" + deed + "}", 2);
            Wall.wrongText("chain a{}behind{if 1{^" + deed + "}}", 2);
            Wall.wrongText("chain a{}behind{if 1{}else{^" + deed + "}}", 2);
        }
    }

    private static void tooMuch() {
        StringBuilder chains = new StringBuilder();
        for (char c = 'a'; c < 'a' + 16; c++) {
            chains.append("chain q").append(c).append("{}");
        }
        Wall.rightText(chains.toString(), 16, 0);
        Wall.wrongText(chains + "^chain zz{}", 3);
        String many = "chain a{log 1" + "+1".repeat(149) + ";";
        Wall.rightText(many + "}", 1, 300);
        Wall.wrongText(many + "^take;}", 3);
        Wall.wrongText("chain a{take;log 1" + "+1".repeat(148) + "+^1;}", 3);
        Wall.wrongText("chain a{log 1" + "+1".repeat(149) + "^+1;}", 3);
        Wall.wrongText("chain a{log 1" + "+1".repeat(149) + " ^1;}", 2);
        Wall.wrongText("chain a{take;log 1" + "+1".repeat(148) + "+^-1;}", 3);
        Wall.wrongText("chain a{take;log 1" + "+1".repeat(148) + "+^!1;}", 3);
        Wall.rightText("chain a{log -1" + "+1".repeat(148) + ";take;}", 1, 300);
        Wall.wrongText("chain a{log !1" + "+1".repeat(148) + ";take;^drop;}", 3);
        Wall.wrongText("chain a{log -1" + "+1".repeat(148) + "+^1;}", 3);
        Wall.rightText("chain a{log (1" + "+(1)".repeat(149) + ");}", 1, 300);
        Wall.rightText("chain a{log 0" + "+-----------1".repeat(22) + ";log !---------1;}", 1, 300);
        Wall.wrongText("chain a{log 0" + "+-----------1".repeat(22) + ";log !---------1;^drop;}", 3);
        Wall.wrongText("chain a{log 0" + "+-----------1".repeat(22) + ";log !----------^1;}", 3);
        Wall.wrongText("chain a{take;log 1" + "+1".repeat(148) + "+^9999999999;}", 3);
        Wall.rightText("chain a{log " + "(".repeat(11) + "1" + ")".repeat(11) + ";}", 1, 2);
        Wall.wrongText("chain a{log " + "(".repeat(11) + "^(1" + ")".repeat(12) + ";}", 3);
        Wall.rightText("chain a{log " + "-".repeat(11) + "1;}", 1, 13);
        Wall.wrongText("chain a{log " + "-!".repeat(5) + "!^-1;}", 3);
        Wall.rightText("chain a{log " + "byte(".repeat(11) + "1" + ")".repeat(11) + ";}", 1, 13);
        Wall.wrongText("chain a{log " + "byte(".repeat(11) + "has^(four)" + ")".repeat(11) + ";}", 3);
        Wall.wrongText("chain a{log " + "byte(".repeat(11) + "has ^[four)" + ")".repeat(11) + ";}", 2);
        Wall.rightText("chain a{" + "if 1{".repeat(11) + "}".repeat(12), 1, 22);
        Wall.wrongText("chain a{" + "if 1{".repeat(11) + "if 1 ^{" + "}".repeat(13), 3);
        Wall.wrongText("chain a{" + "if 1{}else{".repeat(11) + "if 1 ^{}else{}" + "}".repeat(12), 3);
        Wall.rightText("chain a{" + "if 1{".repeat(5) + "log " + "-(".repeat(3) + "1" + ")".repeat(3) + ";" + "}".repeat(6), 1, 10 + 5);
        Wall.wrongText("chain a{" + "if 1{".repeat(6) + "log " + "-(".repeat(2) + "-^(1" + ")".repeat(3) + ";" + "}".repeat(7), 3);
        Wall.wrongText("chain a{}behind{" + "if 1{".repeat(11) + "if 1 ^{" + "}".repeat(13), 3);
    }

    private static void namesAndFields() {
        Wall.wrongText("chain a{}chain b{}chain ^a{}", 4);
        Wall.wrongText("chain a{log four.^ack;}", 5);
        Wall.wrongText("chain a{log four.^chain;}", 5);
        Wall.wrongText("chain a{log rest.^next;}", 5);
        Wall.wrongText("chain a{log net.^total;}", 5);
        Wall.wrongText("chain a{log carried.^from;}", 5);
        Wall.wrongText("chain a{log tunnel.^fla;}", 5);
        Wall.wrongText("chain a{log tunnel.^flagss;}", 5);
        Wall.rightText("chain a{}chain aa{}chain b{}", 3, 0);
    }

    private static void numbers() {
        Wall.wrongText("chain a{log ^4294967296;}", 6);
        Wall.wrongText("chain a{log ^9999999999;}", 6);
        Wall.wrongText("chain a{log 1 ^9999999999;}", 2);
    }

    private static void missingChains() {
        Wall.wrongText("chain a{jump ^b;}", 7);
        Wall.wrongText("chain a{jump b;try ^c;jump d;}chain b{}", 7);
        Wall.wrongText("chain a{jump b;}chain ^a{}", 4);
        Wall.wrongText("chain a{try ^ab;}chain abc{}", 7);
        Wall.rightText("chain a{jump b;}chain b{try a;}", 2, 2);
    }

    private static void whatStays() {
        Wall w = Wall.fresh();
        Wall.due("rules", w.rules("chain a{answer;}"), 1);
        Wall.due("a fault", w.rules("chain a{take;"), -12);
        Wall.due("its place", w.x.wrong(), 13);
        Wall.due("the rules stay", w.x.verdict(0), 2);
        Wall.due("their chains", w.x.told(4), 1);
        Wall.due("their nodes", w.x.told(5), 1);
        Wall.due("others", w.rules("chain a{take;}"), 1);
        Wall.due("no fault now", w.x.wrong(), NONE);
        Wall.due("they are in force", w.x.verdict(0), 0);
    }
}
