import java.util.function.Consumer;

/** Each boundary of the text of RULES and each FAULT with its place: promises 27 and 28. */
public final class EdgeTextTest {
    private static final int NONE = PacketWall.NONE;
    private static final int NO_TOKEN = 1, MISPLACED = 2, TOO_MUCH = 3, NAME_TWICE = 4, NO_FIELD = 5, TOO_GREAT = 6, NO_CHAIN = 7;
    private static final String[] TOLD_WORDS = ("chain behind if else take drop answer return jump try mark count log learn put copy fresh list fail "
            + "time size flow state failure has byte spend long in row head link tag four six hops route part control stream datagram tunnel rest net carried").split(" ");
    private static final String[] FIELD_WORDS = ("to from kind rank id words total number flags offset life next sum length label n left more type code "
            + "sequence ack window bytes").split(" ");
    private static final String[] FIELDS = {"link to from kind", "tag rank id kind", "four words mark total number flags offset life next sum from to",
        "six mark length next life label from to", "hops next n", "route next n left", "part next offset more number", "control type code sum rest",
        "stream from to sequence ack words flags window sum", "datagram from to length sum", "tunnel flags kind", "rest bytes",
        "net mark life next from to", "carried sum"};

    public static void main(String[] args) {
        wrongAheadOfAny();
        anEmptyText();
        oneChainAtLeast();
        blanks();
        bytesThatAreNoToken();
        wordsOfNineLetters();
        numbersOfTenDigits();
        theGreatestNumber();
        wordsThatAreNoNames();
        wordsThatAreNoDeeds();
        fieldsOfEachKind();
        sixteenChains();
        threeHundredNodes();
        theNodeOfEachSort();
        withinTwelveOthers();
        withinTwelveOthersOfEachSort();
        whatBehindMayNotHave();
        namesThatAChainHas();
        chainsThatThereAreNot();
        theFirstFaultOfTheText();
        theLeastFaultOfOneToken();
        theEndOfTheText();
        eachSignThatIsMissing();
        oneComparisonAlone();
        theLongestText();
        whatWasCutOff();
        rulesThatStay();
        rulesThatAreOthers();
        Wall.finish();
    }

    private static void wrongAheadOfAny() {
        Wall.due("ahead of any", Wall.fresh().x.wrong(), NONE);
        Wall w = Wall.fresh();
        w.rules("chain");
        Wall.due("a fault", w.x.wrong(), 5);
        w.x.verdict(0);
        w.x.read(0);
        Wall.due("of the latest rules()", w.x.wrong(), 5);
        w.rules("chain a{}");
        Wall.due("none", w.x.wrong(), NONE);
    }

    private static void anEmptyText() {
        Wall.wrongText("^", MISPLACED);
        Wall.wrongText(" ^", MISPLACED);
        Wall.wrongText("\n\n \n^", MISPLACED);
    }

    private static void oneChainAtLeast() {
        Wall.rightText("chain a{}", 1, 0);
        Wall.rightText("chain a{}chain b{}", 2, 0);
        Wall.wrongText("^a{}", MISPLACED);
        Wall.wrongText("^behind{}", MISPLACED);
        Wall.wrongText("^{}", MISPLACED);
        Wall.wrongText("^take;", MISPLACED);
        Wall.wrongText("chain a{}^a", MISPLACED);
        Wall.wrongText("chain a{}^}", MISPLACED);
        Wall.wrongText("chain a{}^;", MISPLACED);
        Wall.wrongText("chain a{}^1", MISPLACED);
        Wall.wrongText("chain a{}^take;", MISPLACED);
    }

    private static void blanks() {
        Wall.rightText(" \n chain \n a \n { \n log \n 1 \n ; \n } \n behind \n { \n } \n ", 1, 2);
        Wall.rightText("chain a{log12;log(1);if 1{}else{}}behind{}chain b{}", 2, 6);
        Wall.wrongText("^chaina{}", MISPLACED);
        Wall.wrongText("chain a{log 12 ^3;}", MISPLACED);
        for (int blank : new int[] {9, 11, 12, 13, 0, 160}) {
            Wall.wrongText("chain^" + (char) blank + "a{}", NO_TOKEN);
        }
    }

    private static void bytesThatAreNoToken() {
        String signs = "{}()[];,.=<>+-*/%&|!";
        for (int c = 0; c < 256; c++) {
            boolean letter = c >= 'a' && c <= 'z';
            boolean digit = c >= '0' && c <= '9';
            if (c == 10 || c == 32) {
                continue;
            }
            boolean token = letter || digit || signs.indexOf(c) >= 0;
            Wall w = Wall.fresh();
            w.tape(c);
            Wall.due("byte " + c, w.x.rules(), token ? -10 - MISPLACED : -10 - NO_TOKEN);
            Wall.due("byte " + c + ": wrong", w.x.wrong(), 0);
        }
        for (String text : new String[] {"chain a{log 1 ^# 2;}", "chain a{log four^_next;}", "chain ^A{}", "chain a^B{}", "chain a{log 1^'2;}", "chain a{log 1;}^\u00e9"}) {
            Wall.wrongText(text, NO_TOKEN);
        }
    }

    private static void wordsOfNineLetters() {
        Wall.rightText("chain z{}", 1, 0);
        Wall.rightText("chain abcdefghi{jump abcdefghi;}", 1, 1);
        Wall.wrongText("chain ^abcdefghij{}", NO_TOKEN);
        Wall.wrongText("chain a{jump ^abcdefghij;}", NO_TOKEN);
        Wall.wrongText("^chainchain a{}", NO_TOKEN);
        Wall.wrongText("chain a{^abcdefghij;}", NO_TOKEN);
        Wall.wrongText("chain a{^abcdefghi;}", MISPLACED);
        Wall.wrongText("chain a{log four.^abcdefghij;}", NO_TOKEN);
        Wall.wrongText("chain a{log four.^abcdefghi;}", NO_FIELD);
        Wall.wrongText("chain a{log ^datagramss.sum;}", NO_TOKEN);
        Wall.wrongText("chain a{}^abcdefghijklmnopqrstuvwxyz", NO_TOKEN);
        Wall.wrongText("chain ^" + "a".repeat(1580) + "{}", NO_TOKEN);
    }

    private static void numbersOfTenDigits() {
        Wall.rightText("chain a{log 0;}", 1, 2);
        Wall.rightText("chain a{log 0000000000;}", 1, 2);
        Wall.rightText("chain a{log 0000000009;}", 1, 2);
        Wall.wrongText("chain a{log ^00000000000;}", NO_TOKEN);
        Wall.wrongText("chain a{log ^12345678901;}", NO_TOKEN);
        Wall.wrongText("chain ^12345678901{}", NO_TOKEN);
        Wall.wrongText("chain ^1234567890{}", MISPLACED);
        Wall.wrongText("chain a{log ^" + "1".repeat(1500) + ";}", NO_TOKEN);
        Wall.wrongText("chain a{log 1 ^12345678901;}", NO_TOKEN);
    }

    private static void theGreatestNumber() {
        Wall.rightText("chain a{log 4294967295;}", 1, 2);
        Wall.wrongText("chain a{log ^4294967296;}", TOO_GREAT);
        Wall.wrongText("chain a{log ^9999999999;}", TOO_GREAT);
        Wall.wrongText("chain a{log -^4294967296;}", TOO_GREAT);
        Wall.wrongText("chain a{log byte(^4294967296);}", TOO_GREAT);
        Wall.wrongText("chain a{log 4294967295+^5000000000 1;}", TOO_GREAT);
        Wall.wrongText("chain a{log 1 ^4294967296;}", MISPLACED);
        Wall w = Wall.fresh();
        w.judge("chain a{log 4294967295;log 2147483648;log 0000000007;}");
        Wall.due("without sign", w.x.logged(2), 4294967295L);
        Wall.due("the first that is no int", w.x.logged(1), 2147483648L);
        Wall.due("with zeros ahead", w.x.logged(0), 7);
    }

    private static void wordsThatAreNoNames() {
        for (String word : TOLD_WORDS) {
            Wall.wrongText("chain ^" + word + "{}", MISPLACED);
            Wall.wrongText("chain a{jump ^" + word + ";}", MISPLACED);
            Wall.wrongText("chain a{try ^" + word + ";}", MISPLACED);
        }
        for (String word : FIELD_WORDS) {
            Wall.rightText("chain " + word + "{jump " + word + ";try " + word + ";}", 1, 2);
        }
        for (String word : new String[] {"chai", "chains", "i", "iff", "took", "nets"}) {
            Wall.rightText("chain " + word + "{jump " + word + ";}", 1, 1);
        }
    }

    private static void wordsThatAreNoDeeds() {
        String deeds = " if take drop answer return jump try mark count log learn put copy fresh list fail ";
        for (String word : TOLD_WORDS) {
            if (!deeds.contains(" " + word + " ")) {
                Wall.wrongText("chain a{^" + word + ";}", MISPLACED);
                Wall.wrongText("chain a{log 1;^" + word + " 1;}", MISPLACED);
            }
        }
        String ones = " mark time size flow state failure has byte spend long in row head link tag four six hops route part control stream datagram tunnel rest net carried ";
        for (String word : TOLD_WORDS) {
            if (!ones.contains(" " + word + " ")) {
                Wall.wrongText("chain a{log ^" + word + ";}", MISPLACED);
                Wall.wrongText("chain a{log 1+^" + word + ";}", MISPLACED);
            }
        }
        Wall.wrongText("chain a{log has(four)+^;}", MISPLACED);
        Wall.wrongText("chain a{log time+^;}", MISPLACED);
        Wall.wrongText("chain a{log four.next+^,1;}", MISPLACED);
    }

    private static void fieldsOfEachKind() {
        StringBuilder every = new StringBuilder("sequences x");
        for (String line : FIELDS) {
            every.append(' ').append(line);
        }
        for (String line : FIELDS) {
            String kind = line.substring(0, line.indexOf(' '));
            String has = line.substring(line.indexOf(' ')) + " ";
            for (String field : every.toString().split(" ")) {
                if (has.contains(" " + field + " ")) {
                    Wall.rightText("chain a{log " + kind + "." + field + ";}", 1, 2);
                } else {
                    Wall.wrongText("chain a{log " + kind + ".^" + field + ";}", NO_FIELD);
                }
            }
            Wall.rightText("chain a{log has(" + kind + ");}", 1, 2);
        }
        for (String word : new String[] {"mark", "sum", "state", "mine", "take"}) {
            Wall.wrongText("chain a{log has(^" + word + ");}", MISPLACED);
        }
        Wall.wrongText("chain a{log has(^1);}", MISPLACED);
        Wall.wrongText("chain a{log has(^);}", MISPLACED);
    }

    private static String chains(int n) {
        StringBuilder text = new StringBuilder();
        for (int c = 0; c < n; c++) {
            text.append("chain q").append((char) ('a' + c)).append("{}");
        }
        return text.toString();
    }

    private static void sixteenChains() {
        Wall.rightText(chains(16), 16, 0);
        Wall.wrongText(chains(16) + "^chain zz{}", TOO_MUCH);
        Wall.wrongText(chains(16) + " ^chain qa{}", TOO_MUCH);
        Wall.wrongText(chains(16) + "^chain", TOO_MUCH);
        Wall.wrongText(chains(16) + "^take;", MISPLACED);
        Wall.wrongText(chains(16) + "^#", NO_TOKEN);
        Wall.wrongText(chains(15) + "chain ^qa{}", NAME_TWICE);
        Wall.rightText(chains(15) + "chain zz{}behind{}", 16, 0);
    }

    /** 298 nodes: a deed, then numbers and signs. */
    private static final String MANY = "chain a{log 1" + "+1".repeat(148);

    private static void threeHundredNodes() {
        Wall.rightText(MANY + ";}", 1, 298);
        Wall.rightText(MANY + "+1;}", 1, 300);
        Wall.rightText(MANY + ";take;drop;}", 1, 300);
        Wall.rightText(MANY + ";log 1;}", 1, 300);
        Wall.rightText(MANY + ";take;}chain b{drop;}", 2, 300);
        Wall.wrongText(MANY + "+1^+1;}", TOO_MUCH);
        Wall.wrongText(MANY + ";take;drop;^answer;}", TOO_MUCH);
        Wall.wrongText(MANY + ";take;drop;}behind{^log 1;}", TOO_MUCH);
        Wall.wrongText(MANY + ";take;drop;}chain b{^take;}", TOO_MUCH);
        Wall.wrongText(MANY + ";log 1;}chain b{^if 1{}}", TOO_MUCH);
        Wall.rightText(MANY + ";log ((1));}", 1, 300);
        Wall.rightText(MANY + ";if 1{}else{}}", 1, 300);
        Wall.wrongText(MANY + ";log 1;^if 1{}}", TOO_MUCH);
    }

    private static void theNodeOfEachSort() {
        String[] ones = {"^1", "^mark", "^time", "^size", "^flow", "^state", "^failure", "^has(four)", "^four.next", "^byte(1)", "^spend(1)", "^long(1)", "^in(1,2)",
            "^row(1,2)", "^head(1,2,3)", "^-1", "^!1", "(^1)", "((^-1))"};
        for (String one : ones) {
            Wall.wrongText(MANY + ";take;log " + one + ";}", TOO_MUCH);
        }
        for (String sign : new String[] {"+", "-", "*", "/", "%", "&", "|", "=", "<", ">"}) {
            Wall.wrongText(MANY + ";log 1^" + sign + "1;}", TOO_MUCH);
            Wall.rightText("chain a{log 1" + sign + "1;}", 1, 4);
        }
        for (String deed : new String[] {"take;", "drop;", "answer;", "return;", "jump a;", "try a;", "mark 1;", "count 1,1;", "log 1;", "learn 1,1;", "put 1,1,1;",
            "copy 1,1,1,1,1;", "fresh 1,1,1;", "list 1;", "fail 1;", "if 1{}"}) {
            Wall.wrongText(MANY + "+1;^" + deed + "}", TOO_MUCH);
        }
        Wall.wrongText(MANY + ";log -^1;}", TOO_MUCH);
        Wall.wrongText(MANY + ";log !^1;}", TOO_MUCH);
        Wall.wrongText(MANY + ";log byte(^1);}", TOO_MUCH);
        Wall.rightText(MANY + ";log has(four);}", 1, 300);
        Wall.rightText(MANY + ";log four.next;}", 1, 300);
    }

    private static void withinTwelveOthers() {
        Wall.rightText("chain a{log " + "(".repeat(11) + "1" + ")".repeat(11) + ";}", 1, 2);
        Wall.wrongText("chain a{log " + "(".repeat(11) + "^(1" + ")".repeat(12) + ";}", TOO_MUCH);
        Wall.rightText("chain a{log " + "-".repeat(11) + "1;}", 1, 13);
        Wall.wrongText("chain a{log " + "-".repeat(11) + "^-1;}", TOO_MUCH);
        Wall.rightText("chain a{log " + "!".repeat(11) + "1;}", 1, 13);
        Wall.wrongText("chain a{log " + "!".repeat(11) + "^!1;}", TOO_MUCH);
        Wall.rightText("chain a{" + "if 1{".repeat(11) + "}".repeat(11) + "}", 1, 22);
        Wall.wrongText("chain a{" + "if 1{".repeat(11) + "if 1^{" + "}".repeat(13), TOO_MUCH);
        Wall.rightText("chain a{" + "if 1{}else{".repeat(11) + "}".repeat(11) + "}", 1, 22);
        Wall.wrongText("chain a{" + "if 1{".repeat(10) + "if 1{}else{if 1^{}}" + "}".repeat(11), TOO_MUCH);
        Wall.rightText("chain a{}behind{" + "if 1{".repeat(11) + "}".repeat(12), 1, 22);
        Wall.wrongText("chain a{}behind{" + "if 1{".repeat(11) + "if 1^{" + "}".repeat(13), TOO_MUCH);
        Wall.rightText("chain a{" + "if 1{".repeat(11) + "log 1+2*3;}" + "}".repeat(11), 1, 22 + 6);
        Wall.wrongText("chain a{" + "if 1{".repeat(11) + "log ^(1);}" + "}".repeat(11), TOO_MUCH);
        Wall.wrongText("chain a{" + "if 1{".repeat(11) + "log ^-1;}" + "}".repeat(11), TOO_MUCH);
        Wall.rightText("chain a{" + "if 1{".repeat(10) + "log (1);}" + "}".repeat(10), 1, 22);
    }

    private static void withinTwelveOthersOfEachSort() {
        String[] asking = {"byte^(1)", "spend^(1)", "long^(1)", "in^(1,2)", "row^(1,2)", "head^(1,2,3)", "has^(four)", "^(1)", "^-1", "^!1"};
        for (String one : asking) {
            Wall.wrongText("chain a{log " + "(".repeat(11) + one + ")".repeat(11) + ";}", TOO_MUCH);
            Wall w = Wall.fresh();
            Wall.due("one fewer around " + one, w.rules("chain a{log " + "(".repeat(10) + one.replace("^", "") + ")".repeat(10) + ";}"), 1);
        }
        for (String around : new String[] {"byte(", "spend(", "long(", "in(1,", "row(1,", "head(1,2,", "-(", "!("}) {
            int each = around.length() == 2 ? 2 : 1;
            int most = 11 / each;
            Wall w = Wall.fresh();
            Wall.due(most + " of " + around, w.rules("chain a{log " + around.repeat(most) + "1" + ")".repeat(most) + ";}"), 1);
            w = Wall.fresh();
            Wall.due("one more of " + around, w.rules("chain a{log " + around.repeat(most + 1) + "1" + ")".repeat(most + 1) + ";}"), -10 - TOO_MUCH);
            Wall.due("its place", w.x.wrong(), "chain a{log ".length() + around.length() * (most + 1) - (around.indexOf('1') > 0 ? around.length() - around.indexOf('(') : 1));
        }
        Wall.rightText("chain a{log (1)+(2)+(3)+(4)+(5)+(6)+(7)+(8)+(9)+(10)+(11)+(12)+(13);}", 1, 26);
        Wall.rightText("chain a{" + "if 1{}".repeat(13) + "}", 1, 26);
        Wall.rightText("chain a{log -1-1-1-1-1-1-1-1-1-1-1-1-1-1;}", 1, 29);
    }

    private static void whatBehindMayNotHave() {
        for (String deed : new String[] {"take;", "drop;", "answer;", "return;", "jump a;", "try a;"}) {
            Wall.rightText("chain a{" + deed + "}behind{}", 1, 1);
            Wall.wrongText("chain a{}behind{^" + deed + "}", MISPLACED);
            Wall.wrongText("chain a{}behind{log 1;^" + deed + "}", MISPLACED);
            Wall.wrongText("chain a{}behind{if 1{^" + deed + "}}", MISPLACED);
            Wall.wrongText("chain a{}behind{if 1{}else{if 1{^" + deed + "}}}", MISPLACED);
            Wall.rightText("chain a{}behind{}chain b{" + deed + "}", 2, 1);
        }
        for (String deed : new String[] {"mark 1;", "count 1,1;", "log 1;", "learn 1,1;", "put 1,1,1;", "copy 1,1,1,1,1;", "fresh 1,1,1;", "list 1;", "fail 1;"}) {
            Wall w = Wall.fresh();
            Wall.due("in behind: " + deed, w.rules("chain a{}behind{" + deed + "if 1{" + deed + "}else{" + deed + "}}"), 1);
        }
        Wall.wrongText("chain a{}behind{}^behind{}", MISPLACED);
        Wall.wrongText("chain a{}behind^;", MISPLACED);
    }

    private static void namesThatAChainHas() {
        Wall.wrongText("chain a{}chain ^a{}", NAME_TWICE);
        Wall.wrongText("chain a{}chain b{}chain c{}chain ^b{}", NAME_TWICE);
        Wall.wrongText("chain abcdefghi{}chain ^abcdefghi{}", NAME_TWICE);
        Wall.rightText("chain abcdefghi{}chain abcdefghj{}chain abcdefgh{}chain bcdefghi{}", 4, 0);
        Wall.wrongText("chain a{}chain ^a", NAME_TWICE);
        Wall.wrongText("chain a{jump b;}chain ^a{}", NAME_TWICE);
    }

    private static void chainsThatThereAreNot() {
        Wall.wrongText("chain a{jump ^b;}", NO_CHAIN);
        Wall.wrongText("chain a{try ^b;}", NO_CHAIN);
        Wall.wrongText("chain a{jump a;try b;jump ^c;try d;}chain b{}", NO_CHAIN);
        Wall.wrongText("chain a{if 0{}else{if 0{try ^aa;}}}", NO_CHAIN);
        Wall.wrongText("chain a{}chain b{jump ^ab;}", NO_CHAIN);
        Wall.wrongText("chain abcdefghi{jump ^abcdefgh;}", NO_CHAIN);
        Wall.rightText("chain a{jump b;}chain b{try c;}chain c{jump a;}", 3, 3);
    }

    private static void theFirstFaultOfTheText() {
        Wall.wrongText("chain a{jump b;log 1^}", MISPLACED);
        Wall.wrongText("chain a{jump b;^#}", NO_TOKEN);
        Wall.wrongText("chain a{jump b;log ^4294967296;log four.ack;}", TOO_GREAT);
        Wall.wrongText("chain a{log four.^ack;log 4294967296;}", NO_FIELD);
        Wall.wrongText("chain a{}chain ^a{log four.ack;#}", NAME_TWICE);
        Wall.wrongText("chain a{take^#;}", NO_TOKEN);
        Wall.wrongText("chain a{jump b;}chain b{jump c;}chain ^b{}", NAME_TWICE);
    }

    private static void theLeastFaultOfOneToken() {
        Wall.wrongText(MANY + ";take;log ^4294967296;}", TOO_MUCH);
        Wall.wrongText(MANY + ";take;drop;^5;}", MISPLACED);
        Wall.wrongText(MANY + ";take;drop;^#;}", NO_TOKEN);
        Wall.wrongText(MANY + ";take;drop;}behind{^take;}", MISPLACED);
        Wall.wrongText(MANY + ";take;log ^abcdefghij;}", NO_TOKEN);
        Wall.wrongText(MANY + ";take;log ^take;}", MISPLACED);
        Wall.wrongText("chain a{log " + "(".repeat(11) + "byte ^[1]" + ")".repeat(11) + ";}", MISPLACED);
        Wall.wrongText("chain a{log " + "(".repeat(11) + "byte ^#1]" + ")".repeat(11) + ";}", NO_TOKEN);
        Wall.wrongText("chain a{" + "if 1{".repeat(11) + "if 1 ^(1){}" + "}".repeat(12), MISPLACED);
        Wall.wrongText("chain a{log ^12345678901;}", NO_TOKEN);
        Wall.wrongText("chain a{take ^4294967296;}", MISPLACED);
    }

    private static void theEndOfTheText() {
        String text = "chain a{if 1+2{take;}else{jump a;}}behind{count 1,byte(2);}";
        for (int n = 0; n < text.length(); n++) {
            if (text.substring(0, n).equals("chain a{if 1+2{take;}else{jump a;}}")) {
                Wall.rightText(text.substring(0, n), 1, 6);
                continue;
            }
            Wall w = Wall.fresh();
            Wall.due("the first " + n, w.rules(text.substring(0, n)), -10 - MISPLACED);
            int at = w.x.wrong();
            boolean atItsLastWord = n > 0 && Character.isLetter(text.charAt(n - 1)) && at == wordBegin(text, n);
            Wall.due("the first " + n + ": at its end, or at a word that is cut", at == n || atItsLastWord ? 1 : 0, 1);
        }
        Wall.rightText(text, 1, 6 + 4);
        Wall.wrongText("chain a{ \n ^", MISPLACED);
        Wall.wrongText("chain a{take; ^", MISPLACED);
        Wall.wrongText("chain a{log 1 + ^", MISPLACED);
        Wall.wrongText("chain a{log four.^", MISPLACED);
    }

    private static int wordBegin(String text, int end) {
        int at = end;
        while (at > 0 && Character.isLetter(text.charAt(at - 1))) {
            at--;
        }
        return at;
    }

    private static void eachSignThatIsMissing() {
        String[] texts = {"chain a ^take;}", "chain a{take ^}", "chain a{if 1 ^take;}", "chain a{if 1{}else ^take;}", "chain a{jump a ^}", "chain a{count 1 ^2;}", "chain a{log 1 ^}",
            "chain a{put 1,2^;}", "chain a{put 1,2,3^,4;}", "chain a{copy 1,2,3,4^;}", "chain a{copy 1,2,3,4,5^,6;}", "chain a{fresh 1,2^;}", "chain a{learn 1^;}",
            "chain a{list ^;}", "chain a{fail ^;}", "chain a{mark ^;}", "chain a{log four ^next;}", "chain a{log four.^;}", "chain a{log four^;}",
            "chain a{log byte ^1;}", "chain a{log byte(1^;}", "chain a{log byte(^);}", "chain a{log in(1^);}", "chain a{log in(1,2^,3);}", "chain a{log row(1^);}",
            "chain a{log head(1,2^);}", "chain a{log head(1,2,3^,4);}", "chain a{log has ^four;}", "chain a{log has(four^;}", "chain a{log (1^;}", "chain a{log 1^);}",
            "chain a{log 1+^;}", "chain a{log ^+1;}", "chain a{log ^*1;}", "chain a{log 1*^/2;}", "chain a{log ^;}", "chain a{log time^(1);}", "chain a{log mark^.next;}",
            "chain a{if ^{}}", "chain a{^else{}}", "chain a{^;}", "chain a{^{}}", "chain a{}^{}", "chain a{log ^[1];}",
            "chain a{log 1^];}", "chain a{take ^1;}", "chain a{jump ^1;}", "chain a{try ^;}", "chain ^{}", "chain a^(){}"};
        for (String text : texts) {
            Wall.wrongText(text, MISPLACED);
        }
    }

    private static void oneComparisonAlone() {
        for (String first : new String[] {"=", "<", ">"}) {
            for (String other : new String[] {"=", "<", ">"}) {
                Wall.wrongText("chain a{log 1" + first + "2^" + other + "3;}", MISPLACED);
                Wall.rightText("chain a{log (1" + first + "2)" + other + "3;}", 1, 6);
                Wall.rightText("chain a{log 1" + first + "2&3" + other + "4;}", 1, 8);
            }
        }
        Wall.rightText("chain a{log 1+2=3+4;}", 1, 8);
        Wall.rightText("chain a{log !1=1;}", 1, 5);
    }

    private static void theLongestText() {
        String text = "chain a{take;}";
        Wall.rightText(text + " ".repeat(1600 - text.length()), 1, 1);
        Wall.rightText(" ".repeat(1600 - text.length()) + text, 1, 1);
        Wall.wrongText(" ".repeat(1600 - text.length()) + "chain a{take; ^", MISPLACED);
        Wall.wrongText("^;" + " ".repeat(1599), MISPLACED);
    }

    private static void cutOff(String text, int end, int fault, int place) {
        Wall w = Wall.fresh().tape(text.chars().toArray());
        w.x.end(end);
        Wall.due(text + " up to " + end, w.x.rules(), -10 - fault);
        Wall.due(text + " up to " + end + ": wrong", w.x.wrong(), place);
    }

    /** What stood on the tape behind its end is none of the text, be it letters, digits or signs. */
    private static void whatWasCutOff() {
        cutOff("chain a{take;}", 11, MISPLACED, 8);
        cutOff("chain a{take;}", 12, MISPLACED, 12);
        cutOff("chain a{log 1;}", 10, MISPLACED, 8);
        cutOff("chain a{log 1;}", 13, MISPLACED, 13);
        cutOff("chain a{log 00000000011;}", 22, MISPLACED, 22);
        cutOff("chain a{log 00000000011;}", 23, NO_TOKEN, 12);
        cutOff("chain a{log four.next;}", 20, NO_FIELD, 17);
        cutOff("chain a{log four.next;}", 21, MISPLACED, 21);
        Wall w = Wall.fresh().tape("chain a{answer;}chain b{".chars().toArray());
        w.x.end(16);
        Wall.due("a whole chain", w.x.rules(), 1);
        String blanks = " ".repeat(1579);
        Wall.wrongText(blanks + "          chain a{^tak", MISPLACED);
        Wall.wrongText(blanks + "        chain a{log 1^", MISPLACED);
        Wall.wrongText(blanks + "     chain a{log four^", MISPLACED);
        Wall.wrongText(blanks + " chain a{log four.^nex", NO_FIELD);
        Wall.wrongText(blanks + "chain a{log four.next^", MISPLACED);
    }

    private static void rulesThatStay() {
        Consumer<Wall> before = w -> {
            w.packet(0, Wall.link(5, Wall.b()));
            w.judge("chain a{count 1,5;learn 0,1;log 3;mark 4;fresh 0,0,2;jump b;}chain b{answer;}");
        };
        for (String text : new String[] {"", "#", "chain a{take}", "chain a{}chain a{}", "chain a{log four.ack;}", "chain a{log 4294967296;}", "chain a{jump c;}", chains(16) + "chain zz{}"}) {
            Wall w = Wall.fresh();
            before.accept(w);
            int answer = w.rules(text);
            Wall.due("a fault of " + text, answer <= -11 && answer >= -17 ? 1 : 0, 1);
            Wall.due("chains stay", w.x.told(4), 2);
            Wall.due("nodes stay", w.x.told(5), 16);
            Wall.due("why stays", w.x.why(11), 102);
            Wall.due("counters stay", w.x.counter(1), 5);
            Wall.due("the rules stay", w.x.verdict(0), 2);
            Wall.due("they count on", w.x.counter(1), 10);
            Wall.due("the place stays", w.x.wrong() != NONE ? 1 : 0, 1);
        }
    }

    private static void rulesThatAreOthers() {
        Wall w = Wall.fresh().packet(0, Wall.link(5, Wall.b()));
        w.judge("chain a{count 1,5;learn 0,1;log 3;mark 4;fresh 0,0,2;jump b;}chain b{answer;}");
        Wall.due("others", w.rules("chain b{jump c;}chain c{take;}chain d{}"), 3);
        Wall.due("chains", w.x.told(4), 3);
        Wall.due("nodes", w.x.told(5), 2);
        Wall.due("the counter stays", w.x.counter(1), 5);
        Wall.due("the set stays", w.x.learned(0, 0), 1);
        Wall.due("the log stays", w.x.logged(0), 3);
        Wall.due("the mark stays", w.x.mark(0), 4);
        Wall.due("the row stays", w.x.rowAt(0, NONE), 0);
        Wall.due("why stays till a verdict", w.x.why(4), 2);
        Wall.due("the verdict is theirs", w.x.verdict(0), 0);
    }
}
