import java.util.ArrayList;
import java.util.List;

/** Promises 20 to 45: what is asked. */
public final class PromisesAskedTest {
    private static final Check CHECK = new Check();
    private static final int MOST = Integer.MAX_VALUE;
    private static final int LEAST = Integer.MIN_VALUE;

    public static void main(String[] args) {
        terms();
        typedAndFault();
        side();
        comparePaths();
        comparePathsByWays();
        compareWeights();
        compareSums();
        compareRefused();
        heaps();
        heapsByAll();
        down();
        isGood();
        row();
        stuck();
        differ();
        pair();
        ring();
        ends();
        reduct();
        longest();
        longestEdges();
        bound();
        loop();
        loopEdges();
        tell();
        hold();
        game();
        gameEdges();
        ofSign();
        house();
        isSound();
        digest();
        CHECK.end("promises 20 to 45");
    }

    // ---- terms

    private static void terms() {
        Downhill hill = Check.hill("ccaxby", "", "z");
        CHECK.is("20 term", hill.term(0), "ccaxby");
        CHECK.is("20 none", hill.term(1), "");
        CHECK.refused("20 no slot", hill, Check.INDEX, () -> hill.term(6));
        CHECK.refused("20 below", hill, Check.INDEX, () -> hill.term(-1));
        String[] parts = {"ccaxby", "cax", "a", "x", "by", "y"};
        for (int place = 0; place < 6; place++) {
            CHECK.is("21 part " + place, hill.part(0, place), parts[place]);
        }
        CHECK.is("21 of a variable", hill.part(2, 0), "z");
        CHECK.refused("21 no place", hill, Check.INDEX, () -> hill.part(0, 6));
        CHECK.refused("21 below", hill, Check.INDEX, () -> hill.part(0, -1));
        CHECK.refused("21 no term", hill, Check.INDEX, () -> hill.part(1, 0));
        CHECK.refused("21 no slot", hill, Check.INDEX, () -> hill.part(6, 0));
        CHECK.refused("21 far off", hill, Check.INDEX, () -> hill.part(LEAST, MOST));
    }

    private static void typedAndFault() {
        Downhill hill = new Downhill();
        String[] typed = {"", "x", "xy", "cab", "cabx", "abx", "cc", "bbbbbbbbbbbb", "caaa", "ba", "caxcaxcaxcax"};
        int[] faults = {0, -1, 1, 3, -1, 1, 2, 12, 3, -1, 3};
        for (int i = 0; i < typed.length; i++) {
            CHECK.is("3 length", Check.type(hill, typed[i]), typed[i].length());
            CHECK.is("22 typed", hill.typed(), typed[i]);
            CHECK.is("23 fault of " + typed[i], hill.fault(), faults[i]);
        }
        hill.arity(2, 0);
        CHECK.is("23 by the arities as they are", hill.fault(), 1);
    }

    private static void side() {
        Downhill hill = Check.ruled("cbxy>bcxy", "a>d");
        CHECK.is("24 left", hill.side(0, true), "cbxy");
        CHECK.is("24 right", hill.side(0, false), "bcxy");
        CHECK.is("24 the second one", hill.side(1, true) + hill.side(1, false), "ad");
        CHECK.refused("24 no rule", hill, Check.INDEX, () -> hill.side(2, true));
        CHECK.refused("24 below", hill, Check.INDEX, () -> hill.side(-1, false));
        hill.unrule();
        CHECK.refused("24 gone", hill, Check.INDEX, () -> hill.side(1, true));
    }

    // ---- orders

    private static void stands(Downhill hill, int order, String one, String other, int due) {
        Check.keep(hill, 0, one);
        Check.keep(hill, 1, other);
        String what = "25 " + order + " " + one + " " + other;
        CHECK.is(what, hill.compare(order, 0, 1), due);
        CHECK.is(what + " the other way", hill.compare(order, 1, 0), due == 2 ? 2 : -due);
    }

    private static void comparePaths() {
        Downhill hill = new Downhill();
        stands(hill, 0, "x", "x", 0);
        stands(hill, 0, "x", "y", 2);
        stands(hill, 0, "bx", "x", 1);
        stands(hill, 0, "bx", "y", 2);
        stands(hill, 0, "a", "x", 2);
        stands(hill, 0, "a", "a", 0);
        stands(hill, 0, "d", "a", 1);
        stands(hill, 0, "d", "caa", 1);
        stands(hill, 0, "d", "cax", 2);
        stands(hill, 0, "bd", "caa", 1);
        stands(hill, 0, "ba", "d", -1);
        stands(hill, 0, "ebx", "bex", 1);
        stands(hill, 0, "cbxy", "bcxy", 1);
        stands(hill, 0, "bcxy", "cbxy", -1);
        stands(hill, 0, "bcxy", "cxy", 1);
        stands(hill, 0, "bbx", "bx", 1);
        stands(hill, 0, "cxx", "cxy", 2);
        hill.rank(2, 0);
        stands(hill, 0, "cbxy", "bcxy", -1);
        stands(hill, 0, "caa", "d", -1);
        hill.rank(0, 4);
        stands(hill, 0, "a", "cdd", 1);
    }

    private static void comparePathsByWays() {
        Downhill hill = new Downhill();
        stands(hill, 0, "cbxy", "cxbby", 1);
        stands(hill, 0, "cxy", "cyx", 2);
        stands(hill, 0, "cxby", "cxy", 1);
        hill.way(2, 2);
        stands(hill, 0, "cbxy", "cxbby", -1);
        stands(hill, 0, "cxy", "cyx", 2);
        stands(hill, 0, "cbxy", "cxy", 1);
        hill.way(2, 1);
        stands(hill, 0, "cbxy", "cxbby", 2);
        stands(hill, 0, "cxy", "cyx", 0);
        stands(hill, 0, "bcxy", "bcyx", 0);
        stands(hill, 0, "bcxy", "cyx", 1);
        stands(hill, 0, "cbxy", "cyx", 1);
        stands(hill, 0, "cxx", "cxy", 2);
        stands(hill, 0, "cbxbx", "cbxx", 1);
        stands(hill, 0, "cbxbx", "cxx", 1);
        stands(hill, 0, "ccxyz", "czcyx", 0);
        stands(hill, 0, "ccxyz", "cxcyz", 2);
        stands(hill, 0, "cbxby", "cyx", 1);
        Downhill two = new Downhill();
        two.arity(4, 2);
        two.way(2, 1);
        stands(two, 0, "ecxybz", "ecyxz", 1);
        stands(two, 0, "ecxyz", "ecyxz", 0);
        stands(two, 0, "ecxybz", "eccyxxz", -1);
        two.way(4, 2);
        stands(two, 0, "ebzcxy", "ezcyx", 1);
        stands(two, 0, "ebzcxy", "ezccyxx", -1);
    }

    private static void compareWeights() {
        Downhill hill = new Downhill();
        stands(hill, 1, "x", "x", 0);
        stands(hill, 1, "x", "y", 2);
        stands(hill, 1, "x", "a", 2);
        stands(hill, 1, "bx", "x", 1);
        stands(hill, 1, "d", "a", 1);
        stands(hill, 1, "ba", "d", 1);
        stands(hill, 1, "ebx", "bex", 1);
        stands(hill, 1, "cxx", "cxy", 2);
        stands(hill, 1, "cxy", "cyx", 2);
        stands(hill, 1, "cbxy", "cxby", 1);
        stands(hill, 1, "cxba", "cxbd", -1);
        stands(hill, 1, "cxby", "cxby", 0);
        stands(hill, 1, "bbbx", "cxx", 2);
        stands(hill, 1, "bbbx", "cxa", 1);
        hill.weight(2, 9);
        stands(hill, 1, "cxx", "bbbx", 1);
        hill.rank(1, 4);
        hill.weight(1, 0);
        stands(hill, 1, "bx", "x", 1);
        stands(hill, 1, "bbx", "bx", 1);
        stands(hill, 1, "bbx", "y", 2);
        stands(hill, 1, "ba", "a", 1);
        stands(hill, 1, "ba", "d", 1);
        hill.weight(0, 0);
        stands(hill, 1, "a", "a", 2);
        stands(hill, 1, "bx", "x", 2);
        hill.weight(0, 3);
        hill.weight(5, 3);
        hill.weight(3, 4);
        stands(hill, 1, "d", "a", 1);
        stands(hill, 1, "ed", "ea", 1);
        stands(hill, 1, "cxd", "cxx", 2);
        stands(hill, 1, "cxx", "cxa", 2);
        stands(hill, 1, "cdx", "cax", 1);
    }

    private static void compareSums() {
        Downhill hill = new Downhill();
        stands(hill, 2, "x", "x", 0);
        stands(hill, 2, "x", "y", 2);
        stands(hill, 2, "bx", "x", 1);
        stands(hill, 2, "bx", "y", 2);
        stands(hill, 2, "a", "d", 0);
        stands(hill, 2, "a", "x", 2);
        stands(hill, 2, "cxy", "cyx", 0);
        stands(hill, 2, "ccxyz", "cxcyz", 0);
        stands(hill, 2, "cxx", "bx", 2);
        stands(hill, 2, "bcxx", "bx", 1);
        hill.base(1);
        stands(hill, 2, "cxx", "bx", 1);
        stands(hill, 2, "cxy", "bx", 1);
        stands(hill, 2, "a", "x", 2);
        hill.base(2);
        stands(hill, 2, "a", "a", 2);
        hill.base(0);
        hill.sum(2, 0, 1, 1, 1);
        stands(hill, 2, "ccxyz", "cxcyz", 0);
        stands(hill, 2, "cbxy", "cxy", 1);
        stands(hill, 2, "cbxby", "cxy", 1);
        stands(hill, 2, "cxa", "bx", 2);
        stands(hill, 2, "cxba", "bx", 1);
        hill.sum(2, 0, 1, 2, 3);
        stands(hill, 2, "cxy", "cyx", 2);
        stands(hill, 2, "bcxy", "cyx", 2);
        stands(hill, 2, "cxba", "cxa", 1);
        hill.sum(1, 0, 9, 0, 0);
        stands(hill, 2, "bbbbbbbbbbba", "bbbbbbbbbbbd", 0);
        hill.sum(0, 2, 0, 0, 0);
        stands(hill, 2, "bbbbbbbbbbba", "bbbbbbbbbbbd", 1);
        stands(hill, 2, "bx", "x", 2);
        stands(hill, 2, "bba", "ba", 1);
    }

    private static void compareRefused() {
        Downhill hill = Check.hill("x", "a");
        for (int order = 0; order < 3; order++) {
            int asked = order;
            CHECK.refused("25 no term", hill, Check.ELEMENT, () -> hill.compare(asked, 0, 2));
            CHECK.refused("25 no first term", hill, Check.ELEMENT, () -> hill.compare(asked, 2, 0));
            CHECK.is("25 itself", hill.compare(order, 1, 1), 0);
        }
        CHECK.refused("25 no order", hill, Check.ARGUMENT, () -> hill.compare(3, 2, 2));
        CHECK.refused("25 below", hill, Check.ARGUMENT, () -> hill.compare(-1, 0, 0));
        CHECK.refused("25 no slot", hill, Check.INDEX, () -> hill.compare(3, 6, 0));
        CHECK.refused("25 no other slot", hill, Check.INDEX, () -> hill.compare(3, 0, -1));
    }

    private static void heaps() {
        Downhill hill = Check.hill("bx", "x", "y", "x", "by");
        CHECK.is("26 above both", hill.heaps(0, 1, 2 + 8), 1);
        CHECK.is("26 the other way", hill.heaps(0, 2 + 8, 1), -1);
        CHECK.is("26 alike ones", hill.heaps(0, 2, 8), 0);
        CHECK.is("26 itself", hill.heaps(0, 31, 31), 0);
        CHECK.is("26 a pair out", hill.heaps(0, 1 + 2, 2 + 8), 1);
        CHECK.is("26 one above alone", hill.heaps(0, 2 + 4, 1), 2);
        CHECK.is("26 each one above one", hill.heaps(0, 1 + 16, 2 + 4), 1);
        CHECK.is("26 twice as often", hill.heaps(0, 2 + 8, 2), 1);
        CHECK.is("26 one out only", hill.heaps(0, 2, 2 + 8), -1);
        CHECK.is("26 a slot without term", hill.heaps(0, 32, 0), 0);
        CHECK.is("26 nothing", hill.heaps(0, 1, 32), 1);
        CHECK.is("26 nothing the other way", hill.heaps(0, 32, 1), -1);
    }

    private static void heapsByAll() {
        Downhill hill = Check.hill("bx", "x", "cxy", "cyx", "by");
        CHECK.is("26 by weights", hill.heaps(1, 1, 2), 1);
        CHECK.is("26 apart by weights", hill.heaps(1, 4, 8), 2);
        CHECK.is("26 alike by sums", hill.heaps(2, 4, 8), 0);
        hill.way(2, 1);
        CHECK.is("26 alike by paths", hill.heaps(0, 4, 8), 0);
        CHECK.is("26 more by paths", hill.heaps(0, 4 + 1, 8), 1);
        hill.base(3);
        CHECK.is("26 not good", hill.heaps(2, 1, 1), 2);
        CHECK.is("26 not good, above nothing", hill.heaps(2, 1, 0), 1);
        CHECK.is("26 not good, nothing", hill.heaps(2, 0, 63), -1);
        CHECK.is("26 not good, both nothing", hill.heaps(2, 0, 32), 0);
        CHECK.refused("26 no order", hill, Check.ARGUMENT, () -> hill.heaps(3, 0, 0));
        CHECK.refused("26 no set", hill, Check.ARGUMENT, () -> hill.heaps(0, 64, 0));
        CHECK.refused("26 no other set", hill, Check.ARGUMENT, () -> hill.heaps(0, 0, -1));
    }

    private static void down() {
        Downhill hill = Check.ruled("cbxy>bcxy", "bex>ebx", "ebx>bex", "cxy>x", "bx>bbx");
        CHECK.is("27 by paths", hill.down(0), 1 + 4 + 8);
        CHECK.is("27 by weights", hill.down(1), 1 + 4 + 8);
        CHECK.is("27 by sums", hill.down(2), 8);
        hill.rank(1, 4);
        CHECK.is("27 by paths of another row", hill.down(0), 2 + 8);
        CHECK.is("27 by weights of another row", hill.down(1), 2 + 8);
        hill.sum(2, 1, 2, 1, 0);
        CHECK.is("27 by other sums", hill.down(2), 1 + 8);
        hill.weight(0, 0);
        CHECK.is("27 weights are not good", hill.down(1), 0);
        hill.base(2);
        CHECK.is("27 sums are not good", hill.down(2), 0);
        CHECK.refused("27 no order", hill, Check.ARGUMENT, () -> hill.down(3));
        CHECK.refused("27 below", hill, Check.ARGUMENT, () -> hill.down(-1));
    }

    private static void isGood() {
        Downhill hill = new Downhill();
        hill.weight(5, 2);
        CHECK.is("28 signs weigh less than variables", hill.isGood(1), false);
        hill.weight(0, 2);
        CHECK.is("28 one of them still does", hill.isGood(1), false);
        hill.weight(3, 2);
        CHECK.is("28 none does", hill.isGood(1), true);
        hill.weight(2, 0);
        CHECK.is("28 two terms and no weight", hill.isGood(1), true);
        hill.weight(1, 0);
        CHECK.is("28 one term and no weight", hill.isGood(1), false);
        hill.rank(1, 4);
        CHECK.is("28 as the highest one", hill.isGood(1), true);
        hill.weight(4, 0);
        CHECK.is("28 two of these", hill.isGood(1), false);
        CHECK.is("28 paths", hill.isGood(0), true);
        CHECK.is("28 sums", hill.isGood(2), true);
        hill.base(1);
        CHECK.is("28 base 1", hill.isGood(2), true);
        hill.base(2);
        CHECK.is("28 base 2", hill.isGood(2), false);
        hill.base(0);
        hill.sum(0, 0, 0, 0, 0);
        CHECK.is("28 no p without a term", hill.isGood(2), true);
        hill.sum(1, 0, 1, 0, 0);
        CHECK.is("28 no q with one term", hill.isGood(2), true);
        hill.sum(2, 0, 1, 0, 9);
        CHECK.is("28 no q with two", hill.isGood(2), false);
        hill.sum(2, 0, 1, 1, 0);
        CHECK.is("28 q is 1", hill.isGood(2), true);
        hill.sum(1, 9, 0, 9, 9);
        CHECK.is("28 no p with one term", hill.isGood(2), false);
        CHECK.refused("28 no order", hill, Check.ARGUMENT, () -> hill.isGood(3));
        CHECK.refused("28 below", hill, Check.ARGUMENT, () -> hill.isGood(-1));
    }

    private static void row() {
        CHECK.is("29 as it is", Check.ruled("cbxy>bcxy").row(), "abcde");
        CHECK.is("29 another one", Check.ruled("bex>ebx").row(), "acdeb");
        CHECK.is("29 d, c, e, b", Check.ruled("bex>ebx", "ex>cxx", "cxy>d").row(), "adceb");
        CHECK.is("29 none", Check.ruled("bex>ebx", "ebx>bex").row(), "-");
        CHECK.is("29 none for one that comes within", Check.ruled("a>ba").row(), "-");
        CHECK.is("29 d, c, b, a", Check.ruled("a>bd", "bx>cxx", "cxy>d").row(), "dcbae");
        Downhill last = new Downhill();
        last.arity(4, 0);
        Check.rule(last, "a>bd");
        Check.rule(last, "bx>cxx");
        Check.rule(last, "cxy>d");
        Check.rule(last, "d>e");
        CHECK.is("29 edcba", last.row(), "edcba");
        Downhill hill = Check.ruled("ccxyz>cxcyz");
        hill.rank(0, 4);
        CHECK.is("29 the row as told does not matter", hill.row(), "abcde");
        hill.way(2, 2);
        CHECK.is("29 but the ways do", hill.row(), "-");
    }

    private static void stuck() {
        CHECK.is("30 none", Check.ruled("bex>ebx").stuck(), 0);
        CHECK.is("30 both", Check.ruled("bex>ebx", "ebx>bex").stuck(), 3);
        CHECK.is("30 three", Check.ruled("bx>ex", "ex>cxx", "cxy>bx").stuck(), 7);
        CHECK.is("30 one alone is fewer", Check.ruled("bex>ebx", "ebx>bex", "a>d", "bx>bbx").stuck(), 8);
        CHECK.is("30 the smaller set", Check.ruled("a>d", "bex>ebx", "ebx>bex", "bex>ebx").stuck(), 6);
        CHECK.is("30 a smaller number of more", Check.ruled("bx>ex", "ex>cxx", "cxy>bx", "bx>ex", "ex>bx").stuck(), 17);
        CHECK.is("30 the first one of two", Check.ruled("bx>x", "bx>bbx", "ex>eex").stuck(), 2);
    }

    private static void differ() {
        Downhill hill = new Downhill();
        CHECK.is("31 paths and weights", hill.differ(0, 1, 3), "d ba");
        CHECK.is("31 the other way", hill.differ(1, 0, 2), "d ba");
        CHECK.is("31 too small", hill.differ(0, 1, 1), "-");
        CHECK.is("31 paths and sums", hill.differ(0, 2, 1), "a d");
        CHECK.is("31 weights and sums", hill.differ(1, 2, 3), "a d");
        CHECK.is("31 itself", hill.differ(2, 2, 3), "-");
        hill.rank(0, 4);
        CHECK.is("31 by the second one's place", hill.differ(0, 1, 3), "a bd");
        hill.rank(0, 0);
        hill.base(3);
        CHECK.is("31 one is not good", hill.differ(0, 2, 3), "a d");
        hill.weight(0, 0);
        CHECK.is("31 both are not good", hill.differ(1, 2, 3), "-");
        hill.arity(0, 1);
        hill.arity(3, 1);
        CHECK.is("31 no closed term", hill.differ(0, 2, 3), "-");
        Downhill two = new Downhill();
        two.arity(3, 2);
        two.arity(1, 2);
        two.arity(4, 2);
        CHECK.is("31 of size 3", two.differ(0, 2, 3), "baa caa");
        CHECK.is("31 but not of size 2", two.differ(0, 2, 2), "-");
        CHECK.refused("31 no order", hill, Check.ARGUMENT, () -> hill.differ(3, 0, 1));
        CHECK.refused("31 no other order", hill, Check.ARGUMENT, () -> hill.differ(0, -1, 1));
        CHECK.refused("31 no size", hill, Check.ARGUMENT, () -> hill.differ(0, 0, 0));
        CHECK.refused("31 too great", hill, Check.ARGUMENT, () -> hill.differ(0, 0, 4));
    }

    // ---- pairs and steps

    private static List<String> pairsOf(Downhill hill) {
        List<String> pairs = new ArrayList<>();
        for (int nth = 0; nth < hill.house(2); nth++) {
            pairs.add(hill.pair(nth));
        }
        return pairs;
    }

    private static void pair() {
        Downhill hill = Check.ruled("cbxy>cxcxy", "bx>cxbx");
        CHECK.is("32 pairs", pairsOf(hill).toString(), "[cbxy/cxcxy, cbxy/cxy, bx/cxbx, bx/bx]");
        CHECK.is("32 without it", hill.pair(4), "");
        CHECK.is("32 far off", hill.pair(MOST), "");
        CHECK.refused("32 below", hill, Check.ARGUMENT, () -> hill.pair(-1));
        CHECK.is("32 each place by itself", pairsOf(Check.ruled("cxy>ccxxcxx")).toString(),
                "[cxy/ccxxcxx, cxy/cxx, cxy/cxx]");
        CHECK.is("32 not defined", pairsOf(Check.ruled("cxy>bx")).toString(), "[]");
        CHECK.is("32 defined by a later one", pairsOf(Check.ruled("cxy>bx", "bd>d")).toString(), "[cxy/bx]");
        CHECK.is("32 without terms", pairsOf(Check.ruled("a>d", "d>a")).toString(), "[a/d, d/a]");
        Downhill many = new Downhill();
        for (int i = 0; i < 5; i++) {
            Check.rule(many, "ba>bbbbbbbbbbba");
        }
        CHECK.is("32 as many as can be with one variable less", many.house(2), 55);
        many.unrule();
        Check.rule(many, "a>bbbbbbbbbbba");
        CHECK.is("32 as many as can be", many.house(2), 60);
        CHECK.is("32 the last one", many.pair(59), "a/a");
        StringBuilder all = new StringBuilder("0");
        for (int pair = 1; pair < 60; pair++) {
            all.append(' ').append(pair);
        }
        CHECK.is("33 pairs to b or from a", many.ring(0), all.toString());
        CHECK.is("34 of these", many.ends(0), false);
    }

    private static String ringsOf(Downhill hill) {
        StringBuilder rings = new StringBuilder();
        for (int nth = 0; nth < hill.house(3); nth++) {
            rings.append('[').append(hill.ring(nth)).append(']');
        }
        return rings.toString();
    }

    private static void ring() {
        CHECK.is("33 to itself", ringsOf(Check.ruled("ebx>ex", "bx>x", "cbxy>cxy")), "[0][1]");
        CHECK.is("33 over another one", ringsOf(Check.ruled("ebx>cxx", "cxby>ey")), "[0 1]");
        CHECK.is("33 none", ringsOf(Check.ruled("ebx>bx", "bx>x")), "");
        CHECK.is("33 a pair in none", ringsOf(Check.ruled("ebx>cexx", "cbxy>cxy")), "[1][2]");
        Downhill hill = Check.ruled("cbxy>ccxyy", "ebx>eex");
        CHECK.is("33 two each", ringsOf(hill), "[0 1][2 3]");
        CHECK.is("33 without it", hill.ring(2), "");
        CHECK.is("33 far off", hill.ring(MOST), "");
        CHECK.refused("33 below", hill, Check.ARGUMENT, () -> hill.ring(-1));
        CHECK.is("33 interleaved", ringsOf(Check.ruled("cbxy>ecxy", "ebx>cexx", "bx>x")), "[0 1 2 3]");
        CHECK.is("33 apart again", ringsOf(Check.ruled("ebx>cexex", "cbxy>cxy")), "[1 2][3]");
    }

    private static boolean endsOf(String... rules) {
        return Check.ruled(rules).ends(0);
    }

    private static void ends() {
        CHECK.is("34 by the first place", endsOf("cbxy>cxy"), true);
        CHECK.is("34 by the second one", endsOf("cxby>cyy"), true);
        CHECK.is("34 the places change", endsOf("cxy>cyx"), false);
        CHECK.is("34 all of it", endsOf("cxy>cxy"), false);
        CHECK.is("34 more than it", endsOf("cbxy>cbbxy"), false);
        CHECK.is("34 a part of more letters", endsOf("cbbbxy>cbxy"), true);
        CHECK.is("34 beside it", endsOf("ccxyz>cxcyz"), true);
        CHECK.is("34 no part of it", endsOf("cxby>cbxby"), false);
        CHECK.is("34 a pair out, then another place", endsOf("cax>bx", "cbxa>cxba", "cbxby>cxcbxy"), true);
        CHECK.is("34 a pair out, and no place", endsOf("cbxy>cxy", "cxby>cxby"), false);
        CHECK.is("34 no arity", endsOf("a>a"), false);
        CHECK.is("34 no arity on the way", endsOf("bbx>a", "a>bd"), false);
        CHECK.is("34 one term", endsOf("bbx>bx"), true);
        CHECK.is("34 one term goes up", endsOf("bx>bbx"), false);
        Downhill hill = new Downhill();
        hill.arity(4, 2);
        Check.rule(hill, "cbxy>eyx");
        Check.rule(hill, "exy>cyx");
        CHECK.is("34 a place for each sign", hill.ends(0), true);
        Check.rule(hill, "exy>exy");
        CHECK.is("34 a ring that is left", hill.ends(0), false);
        CHECK.is("34 without it", hill.ends(1), true);
        CHECK.is("34 far off", hill.ends(MOST), true);
        CHECK.refused("34 below", hill, Check.ARGUMENT, () -> hill.ends(LEAST));
        CHECK.is("34 the second ring", Check.ruled("ebx>ex", "bx>x", "cxy>cyx").ends(1), false);
    }

    private static String reductsOf(Downhill hill, String term) {
        Check.keep(hill, 0, term);
        StringBuilder reducts = new StringBuilder();
        for (int nth = 0; nth < 20 && !hill.reduct(0, nth).isEmpty(); nth++) {
            reducts.append(hill.reduct(0, nth)).append(' ');
        }
        return reducts.toString();
    }

    private static void reduct() {
        Downhill hill = Check.ruled("bx>x", "bbx>ex");
        CHECK.is("35 by places, then by rules", reductsOf(hill, "bbbd"), "bbd ebd bbd bed bbd ");
        CHECK.is("35 none", reductsOf(hill, "ea"), "");
        CHECK.is("35 within", reductsOf(hill, "cbxby"), "cxby cbxy ");
        CHECK.is("35 the same term twice", reductsOf(Check.ruled("cxx>x"), "ccbabacbaba"), "cbaba cbacbaba ccbababa ");
        CHECK.is("35 unlike terms", reductsOf(Check.ruled("cxx>x"), "cbabd"), "");
        CHECK.is("35 all at once", reductsOf(Check.ruled("cxy>cyx"), "cyx"), "cxy ");
        CHECK.is("35 a variable is no other term", reductsOf(Check.ruled("ba>a"), "bx"), "");
        CHECK.is("35 what goes", reductsOf(Check.ruled("cxy>d"), "bcaa"), "bd ");
        Downhill long1 = Check.ruled("bx>cxcxcxcxcxx");
        CHECK.is("35 a long one", reductsOf(long1, "bbbbbbbbbbba").indexOf(' '), 71);
        CHECK.is("35 far off", long1.reduct(0, MOST), "");
        CHECK.refused("35 no slot", hill, Check.INDEX, () -> hill.reduct(6, -1));
        CHECK.refused("35 below", hill, Check.ARGUMENT, () -> hill.reduct(1, -1));
        CHECK.refused("35 no term", hill, Check.ELEMENT, () -> hill.reduct(1, 0));
    }

    private static int longestOf(Downhill hill, String term) {
        Check.keep(hill, 0, term);
        return hill.longest(0);
    }

    private static void longest() {
        Downhill hill = Check.ruled("cbxy>bcxy", "cax>x");
        CHECK.is("36 none", longestOf(hill, "bx"), 0);
        CHECK.is("36 three", longestOf(hill, "cbbax"), 3);
        CHECK.is("36 the longer one", longestOf(Check.ruled("a>d", "a>bd", "bx>ex"), "a"), 2);
        CHECK.is("36 comes again", longestOf(Check.ruled("bex>ebx", "ebx>bex"), "bex"), -5);
        CHECK.is("36 comes at once", longestOf(Check.ruled("bx>bx"), "bx"), -5);
        CHECK.is("36 comes later", longestOf(Check.ruled("a>ba", "ba>a", "ex>x"), "ea"), -5);
        CHECK.is("36 without end", longestOf(Check.ruled("bx>bbx"), "ba"), -5);
        CHECK.is("36 where it does not come", longestOf(Check.ruled("bx>bbx"), "ea"), 0);
        CHECK.is("36 a variable", longestOf(Check.ruled("bx>bbx"), "x"), 0);
        CHECK.is("36 no rules", longestOf(new Downhill(), "bx"), 0);
        CHECK.refused("36 no slot", hill, Check.INDEX, () -> hill.longest(-1));
        CHECK.refused("36 no term", hill, Check.ELEMENT, () -> hill.longest(1));
    }

    private static void longestEdges() {
        Downhill hill = Check.ruled("cbxy>cxcyby");
        CHECK.is("36 a size of 40", longestOf(hill, "cbbbaeea"), 3);
        CHECK.is("36 a size of 41", longestOf(hill, "cbbbeaeea"), -5);
        CHECK.is("36 in the middle only", longestOf(Check.ruled("cbxy>cxcyby", "cay>a"), "cbbbbaeea"), -5);
        Downhill many = new Downhill();
        many.arity(4, 0);
        Check.rule(many, "bx>x");
        Check.rule(many, "a>d");
        Check.rule(many, "e>cbbbbacaa");
        CHECK.is("36 40 unlike terms", longestOf(many, "cbbbbacaa"), 7);
        CHECK.is("36 41 unlike terms", longestOf(many, "e"), -5);
        CHECK.is("36 11 in a row", longestOf(many, "bbbbbbbbbbbd"), 11);
    }

    private static void bound() {
        Downhill hill = Check.hill("cxy", "bbbbbbbbbbba", "cad", "x");
        CHECK.is("37 no rules", hill.bound(0), "1");
        hill.sum(1, 9, 9, 0, 0);
        hill.sum(0, 9, 0, 0, 0);
        CHECK.is("37 a great one", hill.bound(1), "317733228540");
        hill.sum(2, 1, 1, 1, 9);
        CHECK.is("37 a product", hill.bound(2), "" + (1 + 9 + 1 + 9 * 9));
        hill.base(1);
        CHECK.is("37 base", hill.bound(3) + " " + hill.bound(0), "1 12");
        hill.base(2);
        CHECK.is("37 not good", hill.bound(3), "-");
        hill.base(0);
        CHECK.is("37 nothing", hill.bound(3), "0");
        Check.rule(hill, "cxy>x");
        CHECK.is("37 a rule that goes down", hill.bound(3), "0");
        Check.rule(hill, "bx>bx");
        CHECK.is("37 one that does not", hill.bound(3), "-");
        hill.unrule();
        CHECK.is("37 without it again", hill.bound(3), "0");
        Downhill none = new Downhill();
        CHECK.refused("37 no slot", none, Check.INDEX, () -> none.bound(6));
        CHECK.refused("37 no term", none, Check.ELEMENT, () -> none.bound(0));
        none.base(3);
        CHECK.refused("37 no term and no bound", none, Check.ELEMENT, () -> none.bound(0));
    }

    private static void loop() {
        Downhill hill = Check.ruled("bex>ebx", "ebx>bex");
        CHECK.is("38 in one", hill.loop(1), -1);
        CHECK.is("38 in two", hill.loop(2), 0);
        CHECK.is("38 the second rule", Check.ruled("bx>x", "ex>eex").loop(1), 1);
        CHECK.is("38 by another rule", Check.ruled("ccxyz>cxcyz", "cxy>cyx").loop(1), 0);
        CHECK.is("38 within itself", Check.ruled("bx>ebex").loop(1), 0);
        CHECK.is("38 another instance", Check.ruled("cbxy>cbbxex").loop(1), 0);
        CHECK.is("38 no instance", Check.ruled("cbxy>cxby").loop(2), -1);
        CHECK.is("38 a term that comes twice", Check.ruled("cxx>cxbx").loop(2), -1);
        CHECK.is("38 none", Check.ruled("bx>ex").loop(2), -1);
        CHECK.is("38 one sooner than two", Check.ruled("a>d", "bx>bx", "d>a").loop(1), 1);
        CHECK.is("38 two is enough for the first", Check.ruled("a>d", "bx>bx", "d>a").loop(2), 0);
        CHECK.is("38 the first rule is the second step", Check.ruled("d>a", "ba>bd").loop(2), 1);
        CHECK.is("38 which is not in one", Check.ruled("d>a", "ba>bd").loop(1), -1);
        CHECK.refused("38 none at most", hill, Check.ARGUMENT, () -> hill.loop(0));
        CHECK.refused("38 too many", hill, Check.ARGUMENT, () -> hill.loop(3));
    }

    private static void loopEdges() {
        CHECK.is("38 a size of 40", Check.ruled("czbbbbbbba>z", "czy>bbbcycycyczy").loop(1), 0);
        CHECK.is("38 a size of 41", Check.ruled("cbzbbbbbbba>z", "czy>bbbcycycyczy").loop(1), 1);
        CHECK.is("38 too long on the way", Check.ruled("cbzeeeeeeed>z", "czy>bbbcycycyczy", "bbbx>x").loop(2), 1);
    }

    // ---- numbers

    private static Downhill numbers() {
        Downhill hill = new Downhill();
        hill.number(0, 1);
        hill.power(1, 0);
        hill.power(2, 1);
        hill.make(3, 0, 2, 1);
        hill.make(3, 1, 3, 3);
        hill.number(4, 3);
        hill.make(3, 0, 3, 4);
        return hill;
    }

    private static void tell() {
        Downhill hill = numbers();
        CHECK.is("39 numbers", hill.tell(0) + " " + hill.tell(1) + " " + hill.tell(2) + " " + hill.tell(5), "1 w w^(w) 0");
        CHECK.is("39 rows", hill.tell(3), "w^(w)*2+w*2+3");
        hill.power(4, 3);
        hill.make(4, 1, 4, 4);
        hill.make(4, 0, 4, 0);
        CHECK.is("39 heights", hill.tell(4), "w^(w^(w)*2+w*2+3)*2+1");
        hill.make(5, 0, 1, 0);
        hill.power(5, 5);
        CHECK.is("39 w+1", hill.tell(5), "w^(w+1)");
        hill.make(5, 1, 1, 1);
        hill.power(5, 5);
        CHECK.is("39 w*2", hill.tell(5), "w^(w*2)");
        hill.number(5, 2);
        hill.power(5, 5);
        CHECK.is("39 2", hill.tell(5), "w^(2)");
        hill.number(5, 0);
        hill.power(5, 5);
        hill.make(5, 1, 5, 5);
        CHECK.is("39 w^0 twice", hill.tell(5), "2");
        CHECK.refused("39 no cell", hill, Check.INDEX, () -> hill.tell(6));
        CHECK.refused("39 below", hill, Check.INDEX, () -> hill.tell(-1));
    }

    private static void hold() {
        Downhill hill = numbers();
        hill.number(4, 99);
        int[][] due = {{0, -1, -1, -1, -1, 1}, {1, 0, -1, -1, 1, 1}, {1, 1, 0, -1, 1, 1}, {1, 1, 1, 0, 1, 1},
            {1, -1, -1, -1, 0, 1}, {-1, -1, -1, -1, -1, 0}};
        for (int i = 0; i < 6; i++) {
            for (int j = 0; j < 6; j++) {
                CHECK.is("40 " + i + " " + j, hill.hold(i, j), due[i][j]);
            }
        }
        hill.make(5, 1, 1, 1);
        hill.make(4, 0, 1, 4);
        CHECK.is("40 w*2 and w+99", hill.hold(5, 4), 1);
        hill.make(4, 0, 5, 0);
        CHECK.is("40 a beginning of the other one", hill.hold(5, 4), -1);
        CHECK.refused("40 no cell", hill, Check.INDEX, () -> hill.hold(6, 0));
        CHECK.refused("40 no other cell", hill, Check.INDEX, () -> hill.hold(0, -1));
    }

    private static void game() {
        Downhill hill = numbers();
        CHECK.is("41 0", hill.game(5, 3, 3), 0);
        CHECK.is("41 1", hill.game(0, 0, 0), 1);
        CHECK.is("41 w", hill.game(1, 3, 0), 4);
        CHECK.is("41 w by 0", hill.game(1, 0, 3), 1);
        CHECK.is("41 w by more does not matter", hill.game(1, 2, 3), 3);
        hill.make(4, 1, 1, 1);
        CHECK.is("41 w*2", hill.game(4, 2, 0), 6);
        CHECK.is("41 w*2 by more", hill.game(4, 2, 3), 1 + 2 + 1 + 11);
        hill.number(5, 2);
        hill.power(5, 5);
        CHECK.is("41 w^(2)", hill.game(5, 1, 1), 4);
        CHECK.is("41 w^(2) by 2", hill.game(5, 2, 0), 7);
        CHECK.is("41 it stays", hill.tell(5), "w^(2)");
        CHECK.is("41 no step back", hill.house(7), 8);
        CHECK.refused("41 no cell", hill, Check.INDEX, () -> hill.game(6, 10, 0));
        CHECK.refused("41 no n", hill, Check.ARGUMENT, () -> hill.game(0, 10, 0));
        CHECK.refused("41 below", hill, Check.ARGUMENT, () -> hill.game(0, -1, 0));
        CHECK.refused("41 no more", hill, Check.ARGUMENT, () -> hill.game(0, 0, 4));
        CHECK.refused("41 less", hill, Check.ARGUMENT, () -> hill.game(0, 0, -1));
    }

    private static void gameEdges() {
        Downhill hill = new Downhill();
        hill.number(0, 99);
        hill.make(1, 0, 0, 0);
        hill.make(1, 0, 1, 0);
        hill.number(0, 3);
        hill.make(1, 0, 1, 0);
        CHECK.is("41 300 times", hill.game(1, 9, 3), 300);
        hill.number(0, 1);
        hill.make(1, 0, 1, 0);
        CHECK.is("41 301 times", hill.game(1, 0, 0), -5);
        hill.number(2, 2);
        for (int span = 2; span <= 20; span++) {
            hill.power(2, 2);
        }
        hill.make(3, 0, 2, 2);
        CHECK.is("41 a span of 40 at some moment", hill.game(3, 1, 0) > 0, true);
        hill.power(2, 2);
        hill.make(3, 0, 2, 2);
        CHECK.is("41 a span above 40 at some moment", hill.game(3, 1, 0), -5);
        CHECK.is("41 by 0 it comes down", hill.game(2, 0, 0) > 0, true);
    }

    // ---- all

    private static void ofSign() {
        Downhill hill = Check.ruled("bx>x");
        hill.rank(1, 3);
        hill.way(1, 2);
        hill.weight(1, 7);
        hill.sum(1, 6, 5, 4, 3);
        int[] due = {1, 3, 2, 7, 6, 5, 4, 3, 1};
        for (int what = 0; what <= 8; what++) {
            CHECK.is("42 " + what, hill.ofSign(1, what), due[what]);
        }
        CHECK.is("42 another sign moved down", hill.ofSign(2, 1), 1);
        CHECK.is("42 not defined", hill.ofSign(2, 8), 0);
        hill.unrule();
        CHECK.is("42 no more defined", hill.ofSign(1, 8), 0);
        CHECK.refused("42 no sign", hill, Check.INDEX, () -> hill.ofSign(5, 9));
        CHECK.refused("42 below", hill, Check.INDEX, () -> hill.ofSign(-1, 0));
        CHECK.refused("42 no what", hill, Check.ARGUMENT, () -> hill.ofSign(0, 9));
        CHECK.refused("42 what below", hill, Check.ARGUMENT, () -> hill.ofSign(0, -1));
    }

    private static void house() {
        Downhill hill = Check.ruled("cbxy>ccxyy", "ebx>eex");
        Check.keep(hill, 1, "x");
        hill.weight(5, 3);
        hill.base(2);
        hill.knock();
        int[] due = {3, 2, 4, 2, 1, 3, 2, 8, 1};
        for (int what = 0; what <= 8; what++) {
            CHECK.is("43 " + what, hill.house(what), due[what]);
        }
        CHECK.refused("43 no what", hill, Check.ARGUMENT, () -> hill.house(9));
        CHECK.refused("43 below", hill, Check.ARGUMENT, () -> hill.house(-1));
    }

    private static void isSound() {
        CHECK.is("44 loops", Check.ruled("bx>bbx", "cxy>cyx").isSound(), true);
        CHECK.is("44 stuck", Check.ruled("bx>ex", "ex>cxx", "cxy>bx").isSound(), true);
        Downhill hill = Check.ruled("cbxy>bcxy", "cax>x");
        hill.sum(2, 1, 2, 1, 0);
        String[] terms = {"cbbaa", "cbbax", "bcbax", "x", "cax", "bbcaa"};
        for (int slot = 0; slot < 6; slot++) {
            Check.keep(hill, slot, terms[slot]);
        }
        hill.number(0, 3);
        hill.power(1, 0);
        hill.power(2, 1);
        hill.make(3, 1, 2, 1);
        for (int way = 0; way < 3; way++) {
            hill.way(2, way);
            CHECK.is("44 terms and numbers", hill.isSound(), true);
        }
        int steps = hill.house(7);
        CHECK.is("44 with a span above 40", soundTower(), true);
        CHECK.is("44 no step back", hill.house(7), steps);
    }

    private static boolean soundTower() {
        Downhill hill = new Downhill();
        hill.number(0, 2);
        for (int span = 2; span <= 40; span++) {
            hill.power(0, 0);
        }
        hill.make(1, 0, 0, 0);
        return hill.isSound();
    }

    private static Downhill fullHill() {
        Downhill full = Check.ruled("cbxy>bcxy", "cax>bx", "bex>ebx");
        Check.keep(full, 0, "cbbax");
        Check.keep(full, 1, "cxbx");
        full.knock();
        full.number(0, 5);
        full.power(1, 0);
        full.power(3, 1);
        full.sum(2, 1, 2, 1, 0);
        return full;
    }

    private static void digest() {
        CHECK.is("45 new", new Downhill().digest(), Check.digestOf(new Downhill()));
        Downhill rules = Check.ruled("cbxy>bcxy", "cax>bx", "bex>ebx");
        CHECK.is("45 rules", rules.digest(), Check.digestOf(rules));
        Check.keep(rules, 0, "cbbax");
        CHECK.is("45 the first slot alone", rules.digest(), Check.digestOf(rules));
        CHECK.is("45 all", fullHill().digest(), Check.digestOf(fullHill()));
        Downhill full = fullHill();
        full.base(3);
        CHECK.is("45 not good", full.digest(), Check.digestOf(full));
        full.base(0);
        full.unrule();
        CHECK.is("45 with bounds", full.digest(), Check.digestOf(full));
    }
}
