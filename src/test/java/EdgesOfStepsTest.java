import java.io.IOException;
import java.util.ArrayList;
import java.util.List;

/** The edges of pairs, rings and steps: sections 3 and 4, promises 32 to 38. */
public final class EdgesOfStepsTest {
    private static final int MANY = -5;

    private final Sentences doc = new Sentences();

    private EdgesOfStepsTest() throws IOException {
    }

    public static void main(String[] args) throws IOException {
        EdgesOfStepsTest test = new EdgesOfStepsTest();
        test.defined();
        test.pairs();
        test.leads();
        test.rings();
        test.ringsOfEachSign();
        test.ringsFarBack();
        test.ringsEnd();
        test.ringsLeft();
        test.choices();
        test.pair();
        test.ring();
        test.ends();
        test.reducts();
        test.longestRows();
        test.longestTooMany();
        test.bounds();
        test.loops();
        test.loopSizes();
        test.closed();
        test.reduct();
        test.longest();
        test.bound();
        test.loop();
        test.doc.end("edges of steps", new int[] {3, 4}, new int[] {32, 33, 34, 35, 36, 37, 38});
    }

    /** All SIGNS have one TERM, so that each RULE may be but "ax>bx". */
    private static Downhill unary(String... rules) {
        Downhill hill = new Downhill();
        for (int sign = 0; sign < 5; sign++) {
            hill.arity(sign, 1);
        }
        for (String rule : rules) {
            Check.rule(hill, rule);
        }
        return hill;
    }

    private static Downhill sixty() {
        Downhill hill = new Downhill();
        for (int i = 0; i < 4; i++) {
            Check.rule(hill, "bx>bbbbbbbbbbba");
        }
        Check.rule(hill, "a>bbbbbbbbbbba");
        return hill;
    }

    private static String pairsOf(Downhill hill) {
        StringBuilder pairs = new StringBuilder();
        for (int nth = 0; nth < hill.house(2); nth++) {
            pairs.append(nth == 0 ? "" : " ").append(hill.pair(nth));
        }
        return pairs.toString();
    }

    private static String ringsOf(Downhill hill) {
        StringBuilder rings = new StringBuilder();
        for (int nth = 0; nth < hill.house(3); nth++) {
            rings.append('[').append(hill.ring(nth)).append(']');
        }
        return rings.toString();
    }

    // ---- pairs

    private void defined() {
        doc.section(3, "A SIGN is DEFINED, if a left TERM begins with it.");
        Downhill hill = Check.ruled("cbxy>ea", "d>a");
        int[] due = {0, 0, 1, 1, 0};
        for (int sign = 0; sign < 5; sign++) {
            doc.is("sign " + sign, hill.ofSign(sign, 8), due[sign]);
            doc.is("without a rule", new Downhill().ofSign(sign, 8), 0);
        }
        hill.unrule();
        doc.is("no more", hill.ofSign(3, 8), 0);
        hill.undo();
        doc.is("again", hill.ofSign(3, 8), 1);
        Downhill twice = Check.ruled("bx>x", "bbx>x");
        twice.unrule();
        doc.is("still by the other one", twice.ofSign(1, 8), 1);
    }

    private void pairs() {
        doc.section(3, "PAIRS, RULE by RULE: the left TERM, and a PART of the right one that begins with a DEFINED SIGN, by "
                + "places (each place by itself).");
        doc.is("no rule", pairsOf(new Downhill()), "");
        doc.is("a variable", pairsOf(Check.ruled("bx>x")), "");
        doc.is("not defined", pairsOf(Check.ruled("bx>ex")), "");
        doc.is("defined within the left one alone", pairsOf(Check.ruled("bex>ex")), "");
        doc.is("defined by a later rule", pairsOf(Check.ruled("bx>ex", "ex>x")), "bx/ex");
        doc.is("all of it", pairsOf(Check.ruled("bx>bx")), "bx/bx");
        doc.is("at the end", pairsOf(Check.ruled("d>cad")), "d/d");
        doc.is("by places", pairsOf(Check.ruled("bx>cbexebx", "ex>x")), "bx/bex bx/ex bx/ebx bx/bx");
        doc.is("each place by itself", pairsOf(Check.ruled("bx>cbxbx")), "bx/bx bx/bx");
        doc.is("rule by rule", pairsOf(Check.ruled("ex>bx", "bx>ex", "ex>bx")), "ex/bx bx/ex ex/bx");
        doc.is("60 of them", sixty().house(2), 60);
    }

    private void leads() {
        doc.section(3, "A PAIR leads to another one (or to itself), if its second TERM begins with the SIGN that the first one of "
                + "that begins with.");
        doc.is("to itself", ringsOf(Check.ruled("bx>bx")), "[0]");
        doc.is("though no instance", ringsOf(Check.ruled("bd>ba")), "[0]");
        doc.is("to another one, not back", ringsOf(Check.ruled("bx>ex", "ex>cxx", "cxy>x")), "");
        doc.is("to another one and back", ringsOf(Check.ruled("bx>ex", "ex>bx")), "[0 1]");
        doc.is("to one with the same first term", ringsOf(Check.ruled("bx>ex", "ex>cbxex")), "[0 1 2]");
    }

    private void rings() {
        doc.section(3, "RING: some PAIRS each of which leads, perhaps over others of them, to each of them (also to itself), as "
                + "many as can be; numbered by their first PAIRS.");
        doc.is("over four others", ringsOf(unary("ax>bx", "bx>cx", "cx>dx", "dx>ex", "ex>ax")), "[0 1 2 3 4]");
        doc.is("not round", ringsOf(unary("ax>bx", "bx>cx", "cx>dx", "dx>ex", "ex>x")), "");
        doc.is("the other way round", ringsOf(unary("ax>ex", "ex>dx", "dx>cx", "cx>bx", "bx>ax")), "[0 1 2 3 4]");
        doc.is("five of one", ringsOf(unary("ax>ax", "bx>bx", "cx>cx", "dx>dx", "ex>ex")), "[0][1][2][3][4]");
        doc.is("two, the first pairs decide", ringsOf(unary("ex>dx", "ax>ax", "dx>ex")), "[0 2][1]");
        doc.is("a way in is none", ringsOf(unary("ax>bx", "bx>bx")), "[1]");
        doc.is("a way out is none", ringsOf(unary("bx>bx", "bx>ax", "ax>x")), "[0]");
        doc.is("from one to another one", ringsOf(unary("ax>ax", "ax>bx", "bx>bx")), "[0][2]");
        doc.is("two that share a sign", ringsOf(unary("ax>bax", "bx>ax", "ax>ax")), "[0 1 2 3]");
        doc.is("the same pair twice", ringsOf(unary("ax>ax", "ax>ax")), "[0 1]");
        doc.is("no pairs", ringsOf(new Downhill()), "");
    }

    /** RULES with other SIGNS in the place of "a" to "e", which have the ARITIES of those. */
    private static Downhill renamed(String signs, int[] arities, String... rules) {
        Downhill hill = new Downhill();
        for (int sign = 0; sign < 5; sign++) {
            hill.arity("abcde".indexOf(signs.charAt(sign)), arities[sign]);
        }
        for (String rule : rules) {
            StringBuilder made = new StringBuilder();
            for (char letter : rule.toCharArray()) {
                int sign = "abcde".indexOf(letter);
                made.append(sign < 0 ? letter : signs.charAt(sign));
            }
            Check.rule(hill, made.toString());
        }
        return hill;
    }

    private static List<String> allRows(String signs) {
        List<String> rows = new ArrayList<>();
        if (signs.isEmpty()) {
            rows.add("");
        }
        for (char first : signs.toCharArray()) {
            for (String rest : allRows(signs.replace("" + first, ""))) {
                rows.add(first + rest);
            }
        }
        return rows;
    }

    private void ringsOfEachSign() {
        doc.section(3, "some PAIRS each of which leads, perhaps over others of them, to each of them (also to itself)");
        int[] one = {1, 1, 1, 1, 1};
        int[] two = {2, 2, 2, 2, 2};
        for (String signs : allRows("abcde")) {
            doc.is(signs + " round", ringsOf(renamed(signs, one, "ax>bx", "bx>cx", "cx>dx", "dx>ex", "ex>ax")), "[0 1 2 3 4]");
            doc.is(signs + " not round", ringsOf(renamed(signs, one, "ax>bx", "bx>cx", "cx>dx", "dx>ex", "ex>x")), "");
            doc.is(signs + " in two", ringsOf(renamed(signs, one, "ax>bx", "cx>dx", "bx>ax", "dx>ex", "ex>cx")), "[0 2][1 3 4]");
            doc.is(signs + " behind the first one", ringsOf(renamed(signs, one, "ax>bx", "bx>cx", "cx>dx", "dx>ex", "ex>bx")),
                    "[1 2 3 4]");
        }
        doc.section(3, "A RING ENDS, if for each SIGN with which its PAIRS begin one of its places");
        for (String signs : allRows("abcde")) {
            doc.is(signs + ", the last places of five", renamed(signs, two, "axayz>bxz", "bxy>cxy", "cxy>dxy", "dxy>exy",
                    "exy>axy").ends(0), true);
            doc.is(signs + ", the first places of five", renamed(signs, two, "aaxyz>bxz", "bxy>cxy", "cxy>dxy", "dxy>exy",
                    "exy>axy").ends(0), true);
            doc.is(signs + ", no places of five", renamed(signs, two, "axayz>bzx", "bxy>cxy", "cxy>dxy", "dxy>exy",
                    "exy>axy").ends(0), false);
            doc.is(signs + ", no ring is left", renamed(signs, one, "aax>bx", "bx>ax", "bx>cx", "ccx>bx").ends(0), true);
            doc.is(signs + ", one is left", renamed(signs, one, "aax>bx", "bx>ax", "bx>cx", "cx>bx").ends(0), false);
            doc.is(signs + ", another one is left", renamed(signs, one, "aax>bx", "bx>ax", "ax>bx").ends(0), false);
        }
    }

    private static String rowOfE(int often) {
        return "e".repeat(often) + "x";
    }

    /** Three RULES with a number of PAIRS in no RING, then two with a RING of one PAIR each. */
    private static Downhill behind(int ahead, String one, String other) {
        int first = Math.min(ahead, 11);
        int second = Math.min(ahead - first, 11);
        return unary("ax>" + rowOfE(first), "ax>" + rowOfE(second), "ax>" + rowOfE(ahead - first - second), one, other);
    }

    private void ringsFarBack() {
        doc.section(3, "numbered by their first PAIRS.");
        for (int ahead = 0; ahead <= 33; ahead++) {
            String due = ahead + 2 + " [" + ahead + " " + (ahead + 1) + "]";
            Downhill last = behind(ahead, "ex>bx", "bex>ex");
            doc.is(ahead + " pairs ahead, the last one goes down", last.house(2) + " " + ringsOf(last) + last.ends(0), due + "true");
            Downhill first = behind(ahead, "eex>bx", "bx>ex");
            doc.is(ahead + " pairs ahead, the first one goes down", first.house(2) + " " + ringsOf(first) + first.ends(0),
                    due + "true");
            Downhill none = behind(ahead, "ex>bx", "bx>ex");
            doc.is(ahead + " pairs ahead, none goes down", none.house(2) + " " + ringsOf(none) + none.ends(0), due + "false");
        }
        Downhill two = unary("ax>a" + rowOfE(10), "ax>" + rowOfE(11), "ax>" + rowOfE(11), "ex>bx", "bex>ex");
        doc.is("the first pair and the last ones", ringsOf(two) + two.ends(0) + two.ends(1), "[0][33 34]falsetrue");
        Downhill many = behind(33, "ex>bx", "b" + rowOfE(10) + ">" + rowOfE(11));
        doc.is("many far back", ringsOf(many) + many.ends(0), "[33 34 35 36 37 38 39 40 41 42 43 44]false");
        Downhill less = behind(33, "ex>bx", "b" + rowOfE(10) + ">" + rowOfE(10));
        doc.is("many far back, all of them less", ringsOf(less) + less.ends(0), "[33 34 35 36 37 38 39 40 41 42 43]true");
    }

    private static boolean isEnding(String... rules) {
        return Check.ruled(rules).ends(0);
    }

    private void ringsEnd() {
        doc.section(3, "in each PAIR the TERM at the place of the second one is a PART of the TERM at the place of the first one, "
                + "perhaps all of it, and in one PAIR at least it is not all of it");
        doc.is("a part", isEnding("bbx>bx"), true);
        doc.is("the last letter", isEnding("bbbbbbbbbbbx>bx"), true);
        doc.is("a part that begins as the whole", isEnding("bbbx>bbx"), true);
        doc.is("all of it", isEnding("bx>bx"), false);
        doc.is("all of it, more letters", isEnding("bex>bex"), false);
        doc.is("no part", isEnding("bex>bea"), false);
        doc.is("the other way round a part", isEnding("bx>bbx"), false);
        doc.is("of the same size, none", isEnding("bcxy>bcyx"), false);
        doc.is("some letters of it in a row, none", isEnding("bccxyz>bcyz"), false);
        doc.is("its second term", isEnding("bcxy>by"), true);
        doc.is("in one pair, all of it in the other", isEnding("bx>ex", "ebx>bx"), true);
        doc.is("all of it in both", isEnding("bx>ex", "ex>bx"), false);
        doc.is("in one pair, in the other no part", isEnding("bbx>ex", "ex>bbbx"), false);
        doc.is("the pair the other way round", isEnding("ex>bbbx", "bbx>ex"), false);
    }

    private void ringsLeft() {
        doc.section(3, "all PAIRS in which it is not all of it being out, each RING that is left among the others ENDS");
        doc.is("none is left", isEnding("bbx>bx", "bx>ex", "ex>bx"), false);
        doc.is("not round any more", isEnding("bx>ex", "ebx>bx"), true);
        doc.is("one that is left", isEnding("bbx>bx", "bd>bd"), false);
        doc.is("one that ends by its own places", isEnding("cbxby>cxcbxy"), true);
        doc.is("one that does not", isEnding("cbxby>cxcbxby"), false);
        doc.is("three times places", isEnding("cax>bx", "cbxa>cxba", "cbxby>cxcbxy"), true);
        Downhill two = new Downhill();
        two.arity(4, 2);
        for (String rule : new String[] {"cbxby>exby", "ebxby>cxby", "cxby>cxy", "exby>exy"}) {
            Check.rule(two, rule);
        }
        doc.is("two are left", ringsOf(two) + two.ends(0), "[0 1 2 3]true");
        two.unrule();
        Check.rule(two, "exby>exby");
        doc.is("two are left, one does not", ringsOf(two) + two.ends(0), "[0 1 2 3]false");
    }

    private void choices() {
        doc.section(3, "for each SIGN with which its PAIRS begin one of its places (0, or 1 with the ARITY 2) can be taken");
        doc.is("the place 0 of one", isEnding("bbx>bx"), true);
        doc.is("the place 0 of two", isEnding("cbxy>cxby"), true);
        doc.is("the place 1 of two", isEnding("cxby>cbxy"), true);
        doc.is("not both in turn", isEnding("cbxy>cyx"), false);
        doc.is("not one for one pair, one for the other", isEnding("cbxy>cxby", "cxby>cbxy"), false);
        Downhill hill = new Downhill();
        hill.arity(4, 2);
        Check.rule(hill, "cbxy>eyx");
        Check.rule(hill, "exy>cyx");
        doc.is("0 of one sign, 1 of the other", hill.ends(0), true);
        Downhill other = new Downhill();
        other.arity(1, 2);
        Check.rule(other, "cxey>byx");
        Check.rule(other, "bxy>cyx");
        doc.is("1 of one sign, 0 of the other", other.ends(0), true);
        doc.section(3, "(Of several choices any that does will do; with the ARITY 0 it can not be.)");
        doc.is("both places do", isEnding("cbxby>cxy"), true);
        doc.is("one place does not", isEnding("cbxby>cxbby"), true);
        doc.is("the first one leaves no ring, the second one does", isEnding("cbxby>cxby", "cbxby>cxy"), true);
        doc.is("arity 0", isEnding("a>a"), false);
        doc.is("arity 0, in a term", isEnding("a>ba"), false);
        doc.is("arity 0 on the way", isEnding("bbx>a", "a>bd"), false);
        doc.is("not in the ring", isEnding("bbx>bx", "a>d"), true);
    }

    private void pair() {
        doc.promise(32, "`IllegalArgumentException` if nth is below 0");
        doc.takesAllFromZero(Downhill::new, Downhill::pair);
        doc.takesAllFromZero(EdgesOfStepsTest::sixty, Downhill::pair);
        doc.promise(32, "Returns the PAIR with that number, with \"/\" between; \"\" without it.");
        doc.is("no rule", new Downhill().pair(0), "");
        doc.is("a rule and no pair", Check.ruled("bx>x").pair(0), "");
        Downhill two = Check.ruled("cbxy>ccxyy");
        doc.is(two.pair(0) + " " + two.pair(1) + two.pair(2) + two.pair(Sentences.MOST), "cbxy/ccxyy cbxy/cxy");
        Downhill all = sixty();
        doc.is("the 12th", all.pair(11), "bx/a");
        doc.is("the 13th", all.pair(12), "bx/bbbbbbbbbbba");
        doc.is("the last one", all.pair(59), "a/a");
        doc.is("behind the last one", all.pair(60), "");
    }

    private void ring() {
        doc.promise(33, "`IllegalArgumentException` if nth is below 0");
        doc.takesAllFromZero(Downhill::new, Downhill::ring);
        doc.takesAllFromZero(EdgesOfStepsTest::sixty, Downhill::ring);
        doc.promise(33, "Returns the numbers of the PAIRS of the RING with that number, rising, with a blank between two; \"\" "
                + "without it.");
        doc.is("no rule", new Downhill().ring(0), "");
        doc.is("a pair and no ring", Check.ruled("bx>ex", "ex>x").ring(0), "");
        StringBuilder numbers = new StringBuilder("0");
        for (int pair = 1; pair < 60; pair++) {
            numbers.append(' ').append(pair);
        }
        doc.is("60", sixty().ring(0), numbers.toString());
        doc.is("no second one", sixty().ring(1), "");
        Downhill five = unary("ax>ax", "bx>bx", "cx>cx", "dx>dx", "ex>ex");
        doc.is("five", five.ring(4) + five.ring(5) + five.ring(6), "4");
        doc.is("with pairs between", unary("ax>bx", "cx>cx", "bx>ax").ring(0), "0 2");
    }

    private void ends() {
        doc.promise(34, "`IllegalArgumentException` if nth is below 0");
        doc.takesAllFromZero(Downhill::new, Downhill::ends);
        doc.takesAllFromZero(EdgesOfStepsTest::sixty, Downhill::ends);
        doc.promise(34, "Returns whether the RING with that number ENDS (true without it).");
        doc.is("no rule", new Downhill().ends(0), true);
        doc.is("a pair and no ring", Check.ruled("bx>ex", "ex>x").ends(0), true);
        Downhill two = unary("ax>ax", "bbx>bx", "cx>cx");
        doc.is("" + two.ends(0) + two.ends(1) + two.ends(2) + two.ends(3) + two.ends(Sentences.MOST), "falsetruefalsetruetrue");
        doc.is("60 pairs", sixty().ends(0), false);
        doc.is("behind them", sixty().ends(1), true);
    }

    // ---- steps

    private static Downhill on(Downhill hill, String term) {
        Check.keep(hill, 0, term);
        return hill;
    }

    private static String reductsOf(Downhill hill, String term) {
        Check.keep(hill, 0, term);
        StringBuilder reducts = new StringBuilder();
        for (int nth = 0; nth < 70 && !hill.reduct(0, nth).isEmpty(); nth++) {
            reducts.append(nth == 0 ? "" : " ").append(hill.reduct(0, nth));
        }
        return reducts.toString();
    }

    private void reducts() {
        doc.section(4, "REDUCTS of a TERM: what it becomes by one STEP, by places, then by RULES (one for each STEP, also if alike).");
        doc.is("by places", reductsOf(Check.ruled("bx>x", "d>a"), "cbdd"), "cdd cbad cbda");
        doc.is("then by rules", reductsOf(Check.ruled("bx>x", "bx>ex", "bbx>d"), "bba"), "ba eba d ba bea");
        doc.is("also if alike", reductsOf(Check.ruled("bx>x", "bx>x"), "bba"), "ba ba ba ba");
        doc.is("no rule", reductsOf(new Downhill(), "bba"), "");
        doc.is("no step", reductsOf(Check.ruled("bx>x"), "ea"), "");
        doc.is("a variable", reductsOf(Check.ruled("bx>x"), "x"), "");
        doc.is("all of it", reductsOf(Check.ruled("a>d"), "a"), "d");
        doc.is("55 of them", reductsOf(fiveRules(), "bbbbbbbbbbba").split(" ").length, 55);
    }

    private static Downhill fiveRules() {
        return Check.ruled("bx>x", "bx>x", "bx>x", "bx>x", "bx>x");
    }

    private static int longestOf(String term, String... rules) {
        return on(Check.ruled(rules), term).longest(0);
    }

    private void longestRows() {
        doc.section(4, "how many STEPS one behind the other there can be at most; MANY, if a TERM comes again in such a row");
        doc.is("no rule", on(new Downhill(), "bba").longest(0), 0);
        doc.is("no step", longestOf("ea", "bx>x"), 0);
        doc.is("a variable", longestOf("x", "bx>x"), 0);
        doc.is("one", longestOf("ba", "bx>x"), 1);
        doc.is("eleven", longestOf("bbbbbbbbbbba", "bx>x"), 11);
        doc.is("the longer way of two", longestOf("a", "a>d", "a>bd", "bx>ex", "ex>x"), 3);
        doc.is("the longer way first", longestOf("a", "a>bd", "a>d", "bx>ex", "ex>x"), 3);
        doc.is("over the other one", longestOf("a", "a>bd", "a>d", "bx>x"), 2);
        doc.is("one term by two ways is none that comes again", longestOf("caa", "a>d"), 2);
        doc.is("at once", longestOf("bx", "bx>bx"), MANY);
        doc.is("by two steps", longestOf("a", "a>d", "d>a"), MANY);
        doc.is("later", longestOf("ea", "ex>bx", "bx>bx"), MANY);
        doc.is("in one way of two", longestOf("ea", "ex>x", "ex>bx", "bx>bx"), MANY);
        doc.is("in one that is not come to", longestOf("ea", "ex>x", "bx>bx"), 1);
        doc.is("within", longestOf("cax", "a>a"), MANY);
    }

    private void longestTooMany() {
        doc.section(4, "more than 40 unlike TERMS (with the first one, by all such rows together) are come to");
        Sentences.Maker forty = () -> {
            Downhill hill = new Downhill();
            hill.arity(4, 0);
            for (String rule : new String[] {"bx>x", "a>d", "e>cbbbbaba"}) {
                Check.rule(hill, rule);
            }
            return hill;
        };
        doc.is("5 * 2 times 2 * 2 terms", on(forty.hill(), "cbbbbaba").longest(0), 7);
        doc.is("one more", on(forty.hill(), "e").longest(0), MANY);
        doc.is("6 * 2 times 2 * 2 terms", on(forty.hill(), "cbbbbbaba").longest(0), MANY);
        doc.is("3 * 3 * 4 terms", longestOf("cbbacbbabbba", "bx>x"), 7);
        doc.is("without end", longestOf("ba", "bx>ebx"), MANY);
        doc.section(4, "or one of these has a SIZE above 40");
        doc.is("40", longestOf("ebbbbbbbba", "ez>bcczzczz"), 1);
        doc.is("41", longestOf("ebbbbbbbba", "ez>bbcczzczz"), MANY);
        doc.is("41, then less", longestOf("ebbbbbbbba", "ez>bbcczzczz", "bbcxy>x"), MANY);
        doc.is("40, then less", longestOf("ebbbbbbbba", "ez>bcczzczz", "bcxy>x"), 2);
        doc.is("40 by three steps", longestOf("bbbebbba", "bex>ecxx"), 3);
        doc.is("41 by three steps", longestOf("ebbbebbba", "bex>ecxx"), MANY);
        doc.is("41 in one way of two", longestOf("ebbbbbbbba", "ez>z", "ez>bbcczzczz"), MANY);
    }

    private void bounds() {
        doc.section(4, "BOUND of a TERM: its value by SUMS with all own numbers 0, if SUMS are GOOD, and all RULES go down by them.");
        doc.is("no rule", on(new Downhill(), "cbxa").bound(0), "3");
        doc.is("0", on(new Downhill(), "x").bound(0), "0");
        doc.is("all go down", on(Check.ruled("bx>x", "cxy>x"), "cbxa").bound(0), "3");
        doc.is("the last one does not", on(Check.ruled("bx>x", "cxy>cyx"), "cbxa").bound(0), "-");
        doc.is("the first one does not", on(Check.ruled("d>a", "cxy>x"), "cbxa").bound(0), "-");
        doc.is("the fifth one does not", on(Check.ruled("bx>x", "bx>x", "bx>x", "bx>x", "d>a"), "x").bound(0), "-");
        Downhill bad = on(Check.ruled("bx>x"), "a");
        bad.base(1);
        doc.is("good", bad.bound(0), "1");
        bad.base(2);
        doc.is("not good", bad.bound(0), "-");
        Downhill none = on(new Downhill(), "a");
        none.base(2);
        doc.is("not good and no rule", none.bound(0), "-");
    }

    private void loops() {
        doc.section(4, "A RULE LOOPS in n, if by n STEPS from its left TERM one comes to a TERM");
        doc.is("no rule", new Downhill().loop(2), -1);
        doc.is("in 1", Check.ruled("bx>bx").loop(1), 0);
        doc.is("a part", Check.ruled("bx>ebx").loop(1), 0);
        doc.is("the last letter", Check.ruled("a>cdea").loop(1), 0);
        doc.is("another instance", Check.ruled("bx>ebbx").loop(1), 0);
        doc.is("no instance", Check.ruled("bbx>bex").loop(2), -1);
        doc.is("less than the left term", Check.ruled("bbx>bx").loop(2), -1);
        doc.is("one term for a variable", Check.ruled("cxx>cxex").loop(2), -1);
        doc.is("in 2, not in 1", Check.ruled("a>d", "d>a").loop(1), -1);
        doc.is("in 2", Check.ruled("a>d", "d>a").loop(2), 0);
        doc.is("in 3", unary("ax>bx", "bx>cx", "cx>ax").loop(2), -1);
        doc.is("by steps within", Check.ruled("bea>bd", "d>ea").loop(2), 0);
        doc.is("by another rule alone", Check.ruled("bx>x", "bx>ebx").loop(1), 0);
        doc.is("from its left term, not from an instance", Check.ruled("bex>x", "a>bea").loop(2), 1);
    }

    private void loopSizes() {
        doc.section(4, "(of a SIZE up to 40, all on the way, too) of which a PART is an INSTANCE of that left TERM");
        doc.is("40", Check.ruled("ebbbbbbbba>a", "ez>ccezzczz").loop(1), 0);
        doc.is("41", Check.ruled("ebbbbbbbba>a", "ez>bccezzczz").loop(1), 1);
        doc.is("40 on the way", Check.ruled("ebbbbbbbbx>a", "ez>bcczzczz", "bccxyz>ex").loop(2), 0);
        doc.is("41 on the way", Check.ruled("ebbbbbbbbx>a", "ez>bbcczzczz", "bbccxyz>ex").loop(2), 1);
        doc.is("which takes two", Check.ruled("ebbbbbbbbx>a", "ez>bcczzczz", "bccxyz>ex").loop(1), -1);
        doc.is("40 by the second step", Check.ruled("ebbbbbbbba>a", "ez>bz", "bz>ccezzczz").loop(2), 0);
        doc.is("41 by the second step", Check.ruled("ebbbbbbbba>a", "ez>bz", "bz>eccezzczz").loop(2), 1);
        doc.is("which take two", Check.ruled("ebbbbbbbba>a", "ez>bz", "bz>ccezzczz").loop(1), -1);
        doc.is("40, the last letters of it", Check.ruled("ebbbbbbbba>a", "ez>cczzczez").loop(1), 0);
        doc.is("41, the last letters of it", Check.ruled("ebbbbbbbba>a", "ez>bcczzczez").loop(1), 1);
        doc.is("40 by the second step, the last letters of it", Check.ruled("ebbbbbbbba>a", "ez>bz", "bz>cczzczez").loop(2), 0);
        doc.is("41 by the second step, the last letters of it", Check.ruled("ebbbbbbbba>a", "ez>bz", "bz>bcczzczez").loop(2), 1);
    }

    private void closed() {
        doc.section(4, "CLOSED: a TERM without VARIABLES.");
        Downhill hill = new Downhill();
        hill.weight(0, 0);
        doc.is("the first two", hill.differ(0, 1, 3), "a d");
        doc.section(4, "These stand in an order: by SIZES, then by letters.");
        Downhill sizes = new Downhill();
        sizes.weight(3, 0);
        sizes.arity(0, 1);
        doc.is("by sizes", sizes.differ(0, 1, 2), "d ad");
        Downhill letters = new Downhill();
        letters.weight(4, 0);
        letters.arity(0, 2);
        letters.arity(1, 0);
        letters.arity(4, 0);
        doc.is("by letters", letters.differ(0, 1, 1), "b d");
        Downhill three = new Downhill();
        three.weight(4, 0);
        three.arity(0, 2);
        three.arity(1, 2);
        three.arity(3, 2);
        three.arity(4, 0);
        doc.is("of size 3", three.differ(0, 1, 3), "e aee");
        doc.is("none of size 2", three.differ(0, 1, 2), "-");
    }

    // ---- promises 35 to 38

    private void reduct() {
        Sentences.Maker six = () -> {
            Downhill hill = new Downhill();
            for (int slot = 0; slot < 6; slot++) {
                Check.keep(hill, slot, "bba");
            }
            hill.rule(0, 0);
            return hill;
        };
        doc.promise(35, "`IndexOutOfBoundsException` if there is no such SLOT");
        doc.takes(six, 0, 5, Check.INDEX, (hill, slot) -> hill.reduct(slot, 0));
        doc.refused("ahead of nth", six, Check.INDEX, hill -> hill.reduct(6, -1));
        doc.promise(35, "`IllegalArgumentException` if nth is below 0");
        doc.takesAllFromZero(six, (hill, nth) -> hill.reduct(5, nth));
        doc.refused("ahead of no term", Downhill::new, Check.ARGUMENT, hill -> hill.reduct(0, -1));
        doc.promise(35, "`NoSuchElementException` if it has no TERM");
        for (int nth : new int[] {0, 1, Sentences.MOST}) {
            doc.refused("" + nth, () -> Check.ruled("bx>x"), Check.ELEMENT, hill -> hill.reduct(0, nth));
        }
        doc.promise(35, "Returns the REDUCT with that number; \"\" without it.");
        Downhill hill = on(fiveRules(), "bbbbbbbbbbba");
        doc.is("the first one", hill.reduct(0, 0), "bbbbbbbbbba");
        doc.is("the last one", hill.reduct(0, 54), "bbbbbbbbbba");
        doc.is("behind it", hill.reduct(0, 55), "");
        doc.is("far behind it", hill.reduct(0, Sentences.MOST), "");
        Downhill long1 = on(Check.ruled("bx>ecxcxcxcxcxx"), "bbbbbbbbbbba");
        doc.is("one above 40", long1.reduct(0, 0).length(), 6 * 11 + 6);
        doc.is("the shortest one", long1.reduct(0, 10), "bbbbbbbbbbecacacacacaa");
    }

    private void longest() {
        doc.promise(36, "`IndexOutOfBoundsException` if there is no such SLOT");
        Sentences.Maker six = () -> Check.hill("x", "x", "x", "x", "x", "x");
        doc.takes(six, 0, 5, Check.INDEX, Downhill::longest);
        doc.promise(36, "`NoSuchElementException` if it has no TERM");
        for (int slot = 0; slot < 6; slot++) {
            int none = slot;
            doc.refused("" + slot, Downhill::new, Check.ELEMENT, hill -> hill.longest(none));
        }
        doc.promise(36, "Returns LONGEST of its TERM.");
        doc.is("0", six.hill().longest(5), 0);
        doc.is("MANY is -5", longestOf("ba", "bx>bx"), -5);
    }

    private void bound() {
        doc.promise(37, "`IndexOutOfBoundsException` if there is no such SLOT");
        Sentences.Maker six = () -> Check.hill("x", "x", "x", "x", "x", "x");
        doc.takes(six, 0, 5, Check.INDEX, Downhill::bound);
        doc.promise(37, "`NoSuchElementException` if it has no TERM");
        for (int slot = 0; slot < 6; slot++) {
            int none = slot;
            doc.refused("" + slot, Downhill::new, Check.ELEMENT, hill -> hill.bound(none));
        }
        doc.refused("though it would have no bound", () -> {
            Downhill hill = new Downhill();
            hill.base(3);
            return hill;
        }, Check.ELEMENT, hill -> hill.bound(0));
        doc.promise(37, "Returns BOUND of its TERM; \"-\" if it has none.");
        Downhill hill = Check.hill("x", "bx", "bbbbbbbbba", "bbbbbbbbbba");
        doc.is("" + hill.bound(0) + hill.bound(1), "01");
        doc.is("10", hill.bound(2), "10");
        hill.sum(0, 0, 0, 0, 0);
        doc.is("9", hill.bound(2), "9");
        doc.is("10 again", hill.bound(3), "10");
        hill.sum(1, 0, 9, 0, 0);
        hill.sum(0, 9, 0, 0, 0);
        doc.is("more than an int has", hill.bound(3), "" + 9 * 9L * 9 * 9 * 9 * 9 * 9 * 9 * 9 * 9 * 9);
        hill.base(3);
        doc.is("none", hill.bound(3), "-");
    }

    private void loop() {
        doc.promise(38, "`IllegalArgumentException` if most is not 1 to 2");
        doc.takes(Downhill::new, 1, 2, Check.ARGUMENT, Downhill::loop);
        doc.takes(() -> Check.ruled("bx>bx"), 1, 2, Check.ARGUMENT, Downhill::loop);
        doc.promise(38, "Returns the first RULE that LOOPS in some number of STEPS, 1 to that; NONE without.");
        doc.is("NONE is -1", new Downhill().loop(1), -1);
        doc.is("in 1, of 2 at most", Check.ruled("bx>bx").loop(2), 0);
        doc.is("the second one in 1", Check.ruled("a>d", "bx>bx", "d>a").loop(1), 1);
        doc.is("the first one in 2", Check.ruled("a>d", "bx>bx", "d>a").loop(2), 0);
        doc.is("the fifth one", Check.ruled("bx>x", "bx>x", "bx>x", "bx>x", "a>a").loop(1), 4);
        Downhill hill = Check.ruled("bx>x", "a>a");
        hill.unrule();
        doc.is("that went", hill.loop(2), -1);
    }
}
