import java.io.IOException;
import java.util.ArrayList;
import java.util.List;

/** The edges of the three orders: section 2, promises 9 to 13 and 25 to 31. */
public final class EdgesOfOrdersTest {
    private interface Setting {
        void on(Downhill hill);
    }

    private static final Setting AS_NEW = hill -> {
    };

    private final Sentences doc = new Sentences();

    private EdgesOfOrdersTest() throws IOException {
    }

    public static void main(String[] args) throws IOException {
        EdgesOfOrdersTest test = new EdgesOfOrdersTest();
        test.stands();
        test.firstSettings();
        test.pathsAlike();
        test.pathsOfVariables();
        test.pathsByTerms();
        test.pathsByRow();
        test.pathsByWays();
        test.pathsByHeaps();
        test.heapsOfSlots();
        test.weightsGood();
        test.weightsOfTerms();
        test.weightsGreater();
        test.sumsOfTerms();
        test.sumsGood();
        test.sumsGreater();
        test.notGood();
        test.rank();
        test.way();
        test.weight();
        test.sum();
        test.base();
        test.compare();
        test.heaps();
        test.down();
        test.isGood();
        test.everyRow();
        test.row();
        test.stuck();
        test.differ();
        test.differRefused();
        test.doc.end("edges of orders", new int[] {2}, new int[] {9, 10, 11, 12, 13, 25, 26, 27, 28, 29, 30, 31});
    }

    private static Sentences.Maker with(Setting setting, String... terms) {
        return () -> {
            Downhill hill = new Downhill();
            setting.on(hill);
            for (int slot = 0; slot < terms.length; slot++) {
                Check.keep(hill, slot, terms[slot]);
            }
            return hill;
        };
    }

    /** How one TERM stands to another one, and that the other way round. */
    private void stand(Setting setting, int order, String one, String other, int due) {
        Downhill hill = with(setting, one, other).hill();
        doc.is(order + " " + one + " " + other, hill.compare(order, 0, 1), due);
        doc.is(order + " " + other + " " + one, hill.compare(order, 1, 0), due == 2 ? 2 : -due);
        doc.is(order + " " + one + " itself", hill.compare(order, 0, 0), hill.isGood(order) ? 0 : 2);
    }

    private void stands() {
        doc.section(2, "GREATER than another one, LESS (if that is GREATER), ALIKE, or APART.");
        for (int order = 0; order < 3; order++) {
            stand(AS_NEW, order, "bx", "x", 1);
            stand(AS_NEW, order, "x", "bx", -1);
            stand(AS_NEW, order, "bx", "bx", 0);
            stand(AS_NEW, order, "bx", "y", 2);
        }
    }

    private void firstSettings() {
        Downhill hill = new Downhill();
        doc.section(2, "ROW: all SIGNS from the lowest to the highest (\"abcde\" at first).");
        doc.section(2, "Each SIGN has a WAY: 0 forward (at first), 1 heap, 2 backward.");
        for (int sign = 0; sign < 5; sign++) {
            doc.is("place", hill.ofSign(sign, 1), sign);
            doc.is("way", hill.ofSign(sign, 2), 0);
        }
        doc.section(2, "Each SIGN has a WEIGHT (0 to 9; 1 at first), VARIABLES have one WEIGHT all (1 to 9; 1 at first).");
        for (int sign = 0; sign < 5; sign++) {
            doc.is("weight", hill.ofSign(sign, 3), 1);
        }
        doc.is("of variables", hill.house(5), 1);
        doc.section(2, "at first k is 1, p and q are 1, r is 0.");
        for (int sign = 0; sign < 5; sign++) {
            doc.is("" + hill.ofSign(sign, 4) + hill.ofSign(sign, 5) + hill.ofSign(sign, 6) + hill.ofSign(sign, 7), "1110");
        }
        doc.section(2, "A VARIABLE's value is BASE (0 to 3; 0 at first)");
        doc.is(hill.house(6), 0);
    }

    // ---- paths

    private void pathsAlike() {
        doc.section(2, "Two TERMS are ALIKE, if they are the same VARIABLE, or have the same SIGN first, and its TERMS "
                + "are ALIKE, place by place, or, with the WAY 1, in some sequence.");
        String[] variables = {"x", "y", "z"};
        for (String one : variables) {
            for (String other : variables) {
                stand(AS_NEW, 0, one, other, one.equals(other) ? 0 : 2);
            }
        }
        stand(AS_NEW, 0, "a", "a", 0);
        stand(AS_NEW, 0, "bcxy", "bcxy", 0);
        int[] byWay = {2, 0, 2};
        for (int way = 0; way < 3; way++) {
            int told = way;
            Setting setting = hill -> hill.way(2, told);
            stand(setting, 0, "cxy", "cyx", byWay[way]);
            stand(setting, 0, "bcxy", "bcyx", byWay[way]);
            stand(setting, 0, "cxx", "cxx", 0);
            stand(setting, 0, "ccxyz", "czcyx", byWay[way]);
            stand(setting, 0, "ccxyz", "ccxzy", 2);
            stand(setting, 0, "cxx", "cxy", 2);
        }
        Setting heapAbove = hill -> {
            hill.arity(4, 2);
            hill.way(4, 1);
        };
        stand(heapAbove, 0, "ecxyz", "ezcxy", 0);
        stand(heapAbove, 0, "ecxyz", "ezcyx", 2);
        stand(hill -> hill.way(1, 1), 0, "bcxy", "bcyx", 2);
        stand(hill -> hill.way(1, 1), 0, "bx", "bx", 0);
    }

    private void pathsOfVariables() {
        doc.section(2, "s is GREATER than t, if t is a VARIABLE that stands in s, and s is not t");
        for (String variable : new String[] {"x", "y", "z"}) {
            stand(AS_NEW, 0, "b" + variable, variable, 1);
            stand(AS_NEW, 0, "bbbbbbbbbbb" + variable, variable, 1);
            stand(AS_NEW, 0, "ca" + variable, variable, 1);
            stand(AS_NEW, 0, "c" + variable + "a", variable, 1);
            stand(AS_NEW, 0, "a", variable, 2);
            stand(AS_NEW, 0, "eea", variable, 2);
        }
        stand(AS_NEW, 0, "by", "x", 2);
        stand(AS_NEW, 0, "cyz", "x", 2);
    }

    private void pathsByTerms() {
        doc.section(2, "some TERM of f is GREATER than t, or ALIKE");
        Setting lowest = hill -> hill.rank(2, 0);
        stand(lowest, 0, "cda", "d", 1);
        stand(lowest, 0, "cad", "d", 1);
        stand(lowest, 0, "ceaa", "d", 1);
        stand(lowest, 0, "caea", "d", 1);
        stand(lowest, 0, "caa", "d", -1);
        stand(lowest, 0, "cxx", "a", 2);
        stand(lowest, 0, "cebxx", "bx", 1);
        stand(lowest, 0, "cxbx", "bx", 1);
        stand(hill -> hill.rank(1, 0), 0, "bbx", "bx", 1);
        stand(hill -> hill.rank(1, 0), 0, "bex", "ex", 1);
        stand(hill -> {
            hill.rank(2, 0);
            hill.way(2, 1);
        }, 0, "bcxy", "cyx", 1);
    }

    private void pathsByRow() {
        doc.section(2, "f is higher than g in the ROW, and s is GREATER than each TERM of g");
        stand(AS_NEW, 0, "d", "a", 1);
        stand(hill -> hill.rank(0, 4), 0, "a", "d", 1);
        stand(hill -> hill.rank(0, 3), 0, "a", "d", 1);
        stand(hill -> hill.rank(0, 2), 0, "a", "d", -1);
        stand(AS_NEW, 0, "ex", "bx", 1);
        stand(AS_NEW, 0, "ex", "by", 2);
        stand(AS_NEW, 0, "ex", "cxx", 1);
        stand(AS_NEW, 0, "ex", "cxy", 2);
        stand(AS_NEW, 0, "ex", "cyx", 2);
        stand(AS_NEW, 0, "ebx", "bex", 1);
        stand(AS_NEW, 0, "d", "caa", 1);
        stand(AS_NEW, 0, "d", "cad", -1);
        stand(AS_NEW, 0, "d", "cda", -1);
        stand(AS_NEW, 0, "d", "bbbbbbbbbbba", 1);
        stand(hill -> hill.rank(3, 1), 0, "d", "ba", -1);
        stand(AS_NEW, 0, "cbxy", "bcxy", 1);
        stand(hill -> hill.rank(1, 2), 0, "cbxy", "bcxy", -1);
    }

    private void pathsByWays() {
        doc.section(2, "f is g, s is GREATER than each TERM of g, and the TERMS of f are MORE than those of g");
        stand(AS_NEW, 0, "bex", "bbx", 1);
        stand(AS_NEW, 0, "bex", "bby", 2);
        stand(AS_NEW, 0, "cbxa", "cxz", 2);
        stand(AS_NEW, 0, "cbxa", "cxd", 2);
        doc.section(2, "with the WAY 0 at the first place at which they are not ALIKE, that of f is GREATER; "
                + "with 2 at the last such place; with 1 as HEAPS");
        int[] first = {1, 2, -1};
        int[] swapped = {-1, 0, 1};
        for (int way = 0; way < 3; way++) {
            int told = way;
            Setting setting = hill -> hill.way(2, told);
            stand(setting, 0, "cbxy", "cxbby", first[way]);
            stand(setting, 0, "cxbx", "cbxx", swapped[way]);
            stand(setting, 0, "cxby", "cxy", 1);
            stand(setting, 0, "cbxy", "cxy", 1);
            stand(setting, 0, "cbxby", "cxy", 1);
            stand(setting, 0, "cxy", "cxz", 2);
            Setting two = hill -> {
                hill.arity(4, 2);
                hill.way(2, 1);
                hill.way(4, told);
            };
            stand(two, 0, "ecxybz", "ecyxz", 1);
            stand(two, 0, "ebzcxy", "ezcyx", 1);
            stand(two, 0, "ecxyz", "ecyxz", 0);
        }
        for (int way = 0; way < 3; way++) {
            int told = way;
            stand(hill -> hill.way(1, told), 0, "bex", "bx", 1);
            stand(hill -> hill.way(1, told), 0, "bx", "by", 2);
            stand(hill -> hill.way(0, told), 0, "a", "a", 0);
        }
    }

    private void pathsByHeaps() {
        doc.section(2, "pairs that are ALIKE, one of each, are taken out, as long as there are such");
        Setting heap = hill -> hill.way(2, 1);
        stand(heap, 0, "cbxbx", "cbxx", 1);
        stand(heap, 0, "cbxbx", "cxbx", 1);
        stand(heap, 0, "cbxx", "cxx", 1);
        stand(heap, 0, "cxbx", "cxx", 1);
        stand(heap, 0, "cxbx", "cyx", 2);
        stand(heap, 0, "cbxz", "czx", 1);
        stand(heap, 0, "czbx", "cxz", 1);
        stand(heap, 0, "czbx", "czx", 1);
        stand(heap, 0, "cbxz", "cxz", 1);
        doc.section(2, "one is MORE, if it has something left, and each one that is left in the other has a GREATER one "
                + "that is left in it");
        stand(heap, 0, "cbcxyz", "cxy", 1);
        stand(heap, 0, "czbcxy", "cxy", 1);
        stand(heap, 0, "cbxz", "cxy", 2);
        stand(heap, 0, "cbxz", "cyx", 2);
        stand(heap, 0, "cbxby", "cyx", 1);
        stand(heap, 0, "cbxbx", "cxx", 1);
        stand(heap, 0, "cxz", "cxy", 2);
        stand(heap, 0, "cbxy", "cxbby", 2);
    }

    private void heapsOfSlots() {
        doc.section(2, "HEAPS of TERMS (some perhaps more than once)");
        Sentences.Maker maker = with(AS_NEW, "x", "x", "bx", "x", "by", "bbx");
        int[][] due = {{1, 2, 0}, {3, 2, 1}, {1, 3, -1}, {11, 11, 0}, {11, 3, 1}, {11, 4, -1}, {4, 11, 1}, {4, 15, -1},
            {1, 16, 2}, {20, 11, 1}, {16, 4, 2}, {32, 15, 1}, {32, 31, 2}, {48, 31, 1}, {6, 33, -1}, {63, 63, 0},
            {36, 5, 1}, {5, 36, -1}, {17, 18, 0}, {17, 16, 1}, {8, 24, -1}};
        for (int[] one : due) {
            Downhill hill = maker.hill();
            doc.is(one[0] + " and " + one[1], hill.heaps(0, one[0], one[1]), one[2]);
            doc.is(one[1] + " and " + one[0], hill.heaps(0, one[1], one[0]), one[2] == 2 ? 2 : -one[2]);
        }
        doc.section(2, "ALIKE, if both are empty.");
        for (int order = 0; order < 3; order++) {
            doc.is("nothing", maker.hill().heaps(order, 0, 0), 0);
            doc.is("nothing is left", maker.hill().heaps(order, 11, 11), 0);
            doc.is("one is empty", maker.hill().heaps(order, 1, 0), 1);
            doc.is("the other one is", maker.hill().heaps(order, 0, 63), -1);
        }
    }

    // ---- weights

    private void good(int order, boolean due, Setting setting) {
        doc.is("good by " + order, with(setting).hill().isGood(order), due);
    }

    private void weightsGood() {
        doc.section(2, "GOOD, if each SIGN with the ARITY 0 has the WEIGHT of VARIABLES or more");
        for (int weight = 0; weight <= 9; weight++) {
            for (int least = 1; least <= 9; least++) {
                int of = weight;
                int ofVariables = least;
                for (int sign = 0; sign < 5; sign++) {
                    int told = sign;
                    good(1, weight >= least, hill -> {
                        allWeigh(hill, 9);
                        hill.arity(told, 0);
                        hill.weight(told, of);
                        hill.weight(5, ofVariables);
                    });
                }
            }
        }
        doc.section(2, "each SIGN with the ARITY 1 and the WEIGHT 0 (if there is such) is the highest of the ROW.");
        for (int place = 0; place < 5; place++) {
            for (int sign = 0; sign < 5; sign++) {
                int to = place;
                int told = sign;
                good(1, place == 4, hill -> unary(hill, told, to, 0));
                good(1, true, hill -> unary(hill, told, to, 1));
                good(1, true, hill -> {
                    unary(hill, told, to, 0);
                    hill.arity(told, 2);
                });
            }
        }
        good(1, false, hill -> {
            unary(hill, 1, 4, 0);
            unary(hill, 4, 4, 0);
        });
        good(1, true, hill -> {
            unary(hill, 4, 4, 0);
            hill.weight(2, 0);
        });
    }

    private static void allWeigh(Downhill hill, int weight) {
        for (int sign = 0; sign < 6; sign++) {
            hill.weight(sign, weight);
        }
    }

    private static void unary(Downhill hill, int sign, int place, int weight) {
        hill.arity(sign, 1);
        hill.rank(sign, place);
        hill.weight(sign, weight);
    }

    private void weightsOfTerms() {
        doc.section(2, "WEIGHT of a TERM: the sum of all its letters.");
        for (int weight = 1; weight <= 9; weight++) {
            int told = weight;
            Setting setting = hill -> {
                allWeigh(hill, 1);
                hill.weight(4, told);
            };
            int due = weight < 4 ? -1 : 1;
            stand(setting, 1, "ea", "bbbba", due);
            stand(setting, 1, "bea", "bbbbba", due);
        }
        Setting heavy = hill -> {
            hill.weight(0, 3);
            hill.weight(3, 3);
            hill.weight(5, 3);
        };
        stand(heavy, 1, "cxy", "bbbba", 1);
        stand(heavy, 1, "cxy", "bbbbba", 2);
        stand(heavy, 1, "cax", "bbbbx", 1);
        stand(heavy, 1, "cax", "bbbbbx", -1);
        doc.section(2, "ALIKE: the same.");
        stand(AS_NEW, 1, "cxy", "cxy", 0);
        stand(AS_NEW, 1, "cxy", "cyx", 2);
        stand(AS_NEW, 1, "x", "x", 0);
        stand(AS_NEW, 1, "x", "y", 2);
        stand(AS_NEW, 1, "bbbbbbbbbbba", "bbbbbbbbbbba", 0);
        stand(hill -> hill.way(2, 1), 1, "cxy", "cyx", 2);
    }

    private void weightsGreater() {
        doc.section(2, "each VARIABLE stands in s at least as often as in t");
        for (String v : new String[] {"x", "y", "z"}) {
            stand(AS_NEW, 1, "cb" + v + v, "c" + v + v, 1);
            stand(AS_NEW, 1, "bbbbbbbb" + v, "c" + v + v, 2);
            stand(AS_NEW, 1, "bb" + v, "b" + v, 1);
            stand(AS_NEW, 1, "bba", v, 2);
            stand(AS_NEW, 1, "c" + v + v, "b" + v, 1);
            stand(AS_NEW, 1, "ccaa" + v, "c" + v + v, 2);
        }
        stand(AS_NEW, 1, "ccxyz", "cxy", 1);
        stand(AS_NEW, 1, "ccxyy", "cxz", 2);
        doc.section(2, "s has more WEIGHT; or it has as much, and: t is a VARIABLE, and s is not; or both begin with SIGNS");
        stand(AS_NEW, 1, "ba", "d", 1);
        stand(AS_NEW, 1, "bx", "x", 1);
        stand(AS_NEW, 1, "a", "x", 2);
        Setting light = hill -> unary(hill, 1, 4, 0);
        stand(light, 1, "bx", "x", 1);
        stand(light, 1, "bbbbbbbbbbbx", "x", 1);
        stand(light, 1, "bx", "y", 2);
        stand(light, 1, "bbx", "bx", 1);
        stand(light, 1, "ba", "a", 1);
        stand(light, 1, "ba", "d", 1);
        stand(light, 1, "bbd", "ba", 1);
        stand(light, 1, "bba", "bd", 1);
        doc.section(2, "f is higher than g in the ROW, or f is g, and at the first place at which the TERMS of both are not "
                + "the same, that of f is GREATER.");
        stand(AS_NEW, 1, "d", "a", 1);
        stand(hill -> hill.rank(0, 3), 1, "d", "a", -1);
        stand(AS_NEW, 1, "ebx", "bex", 1);
        stand(AS_NEW, 1, "bex", "bbx", 1);
        stand(AS_NEW, 1, "cda", "cad", 1);
        stand(hill -> hill.way(2, 2), 1, "cda", "cad", 1);
        stand(AS_NEW, 1, "cad", "caa", 1);
        stand(AS_NEW, 1, "cxby", "cbyx", 2);
        stand(AS_NEW, 1, "cbxy", "cxby", 1);
        stand(AS_NEW, 1, "cxex", "cxbx", 1);
        stand(AS_NEW, 1, "ccaacdd", "ccadcaa", -1);
        stand(AS_NEW, 1, "ccdacaa", "ccadcdd", 1);
    }

    // ---- sums

    private static String bound(Setting setting, String term) {
        return with(setting, term).hill().bound(0);
    }

    private void sumsOfTerms() {
        doc.section(2, "the value of a TERM that begins with it is k + p * u + q * v + r * u * v, where u and v are the "
                + "values of its first and its second TERM (0 for one that there is not)");
        Setting setting = hill -> {
            hill.sum(0, 5, 9, 9, 9);
            hill.sum(3, 7, 0, 0, 0);
            hill.sum(2, 1, 2, 3, 4);
            hill.sum(1, 1, 2, 9, 9);
        };
        doc.is("no term", bound(setting, "a"), "5");
        doc.is("no numbers but k", bound(setting, "d"), "7");
        doc.is("one term", bound(setting, "ba"), "11");
        doc.is("two terms", bound(setting, "cad"), "172");
        doc.is("the other way", bound(setting, "cda"), "" + (1 + 14 + 15 + 140));
        doc.is("within", bound(setting, "cbaba"), "" + (1 + 22 + 33 + 4 * 121));
        doc.is("at first", bound(AS_NEW, "ccaabd"), "6");
        Setting nines = hill -> {
            for (int sign = 0; sign < 5; sign++) {
                hill.sum(sign, 9, 9, 9, 9);
            }
        };
        doc.is("exact, as great as they are", bound(nines, "bbbbbbbbbbba"), "317733228540");
        doc.is("as great as they are", bound(nines, "bcacacacacaa"), bigBound());
        for (int base = 0; base <= 3; base++) {
            int told = base;
            Setting on = hill -> {
                hill.base(told);
                hill.sum(0, told, 0, 0, 0);
                hill.sum(3, told, 0, 0, 0);
            };
            doc.section(2, "A VARIABLE's value is BASE (0 to 3; 0 at first) and a number of its own, 0 or more.");
            doc.is("base " + base, bound(on, "x"), "" + base);
            doc.is("base " + base + " twice", bound(on, "cxy"), "" + (1 + base + base));
            stand(on, 2, "x", "a", 2);
            stand(on, 2, "bx", "a", 1);
            stand(on, 2, "x", "y", 2);
        }
    }

    /** b of c of five times a: 9 + 9 * v, where v is 9 + 9 * 9 + 9 * w + 81 * w, from w = 9 on, five times. */
    private static String bigBound() {
        long w = 9;
        for (int i = 0; i < 5; i++) {
            w = 9 + 9 * 9 + 9 * w + 9 * 9 * w;
        }
        return "" + (9 + 9 * w);
    }

    private void sumsGood() {
        doc.section(2, "GOOD, if p is 1 or more for each SIGN with a TERM, q for each with two, and k is BASE or more for each "
                + "with none.");
        for (int sign = 0; sign < 5; sign++) {
            int told = sign;
            for (int arity = 0; arity <= 2; arity++) {
                int of = arity;
                for (int value : new int[] {0, 1, 9}) {
                    good(2, arity == 0 || value > 0, hill -> ofArity(hill, told, of, 9, value, 9));
                    good(2, arity < 2 || value > 0, hill -> ofArity(hill, told, of, 9, 9, value));
                }
                for (int base = 0; base <= 3; base++) {
                    int least = base;
                    for (int k = 0; k <= 4; k++) {
                        int value = k;
                        good(2, arity > 0 || k >= base, hill -> {
                            for (int other = 0; other < 5; other++) {
                                hill.sum(other, 9, 1, 1, 0);
                            }
                            ofArity(hill, told, of, value, 1, 1);
                            hill.base(least);
                        });
                    }
                }
            }
        }
        good(2, true, hill -> hill.base(1));
        good(2, false, hill -> hill.base(2));
    }

    private static void ofArity(Downhill hill, int sign, int arity, int k, int p, int q) {
        hill.arity(sign, arity);
        hill.sum(sign, k, p, q, 0);
    }

    private void sumsGreater() {
        doc.section(2, "So the value of a TERM is a sum of products of these own numbers.");
        Setting product = hill -> hill.sum(2, 0, 1, 1, 1);
        stand(product, 2, "cxy", "cyx", 0);
        stand(product, 2, "ccxyz", "cxcyz", 0);
        stand(product, 2, "bcxy", "cyx", 1);
        stand(product, 2, "bcxy", "cxx", 2);
        stand(product, 2, "bcxx", "cxy", 2);
        stand(product, 2, "cxcxcxcxcxx", "cxcxcxcxcxz", 2);
        stand(product, 2, "bcxcxcxcxcxx", "cxcxcxcxcxx", 1);
        stand(product, 2, "bczczczczczz", "czczczczczz", 1);
        stand(product, 2, "bczczczczczy", "cyczczczczz", 1);
        Setting six = hill -> {
            hill.sum(2, 0, 1, 1, 1);
            hill.sum(4, 1, 9, 0, 0);
        };
        stand(six, 2, "eczczczczz", "czczczczczz", 2);
        stand(six, 2, "ecxcxcxcxx", "cxcxcxcxcxx", 2);
        stand(six, 2, "cyecxcxcxcxx", "cxcxcxcxcxx", 2);
        stand(six, 2, "czecycycycyy", "cycycycycyy", 2);
        stand(six, 2, "ecxcycxcycxy", "cxcycxcycxy", 1);
        doc.section(2, "ALIKE: the same sum.");
        stand(AS_NEW, 2, "a", "d", 0);
        stand(AS_NEW, 2, "cxy", "cyx", 0);
        stand(AS_NEW, 2, "cax", "bbx", 0);
        stand(AS_NEW, 2, "cxx", "cxy", 2);
        stand(hill -> hill.sum(1, 0, 1, 0, 0), 2, "bbbx", "x", 0);
        doc.section(2, "s is GREATER, if in its sum less that of t the part without own numbers is 1 or more, and no product "
                + "has a number below 0.");
        stand(AS_NEW, 2, "bx", "x", 1);
        stand(AS_NEW, 2, "bby", "bx", 2);
        stand(AS_NEW, 2, "cxx", "bx", 2);
        stand(AS_NEW, 2, "bcxx", "bx", 1);
        stand(AS_NEW, 2, "bbbbbx", "cxx", 2);
        stand(hill -> hill.sum(1, 0, 2, 0, 0), 2, "bx", "x", 2);
        stand(hill -> {
            hill.sum(1, 0, 2, 0, 0);
            hill.base(1);
        }, 2, "bx", "x", 1);
        stand(hill -> hill.sum(0, 0, 0, 0, 0), 2, "cax", "bx", 0);
        stand(hill -> hill.sum(0, 1, 0, 0, 0), 2, "cax", "bx", 1);
    }

    private void notGood() {
        doc.section(2, "By an ORDER that is not GOOD all TERMS are APART, also one from itself.");
        Setting setting = hill -> {
            hill.weight(0, 0);
            hill.base(2);
        };
        for (int order = 1; order <= 2; order++) {
            stand(setting, order, "bx", "x", 2);
            stand(setting, order, "x", "x", 2);
            stand(setting, order, "a", "a", 2);
            Downhill hill = with(setting, "bx", "x", "x").hill();
            doc.is("heaps", hill.heaps(order, 1, 2), 2);
            doc.is("heaps of the same", hill.heaps(order, 2, 2), 2);
            doc.is("heaps of one slot and none", hill.heaps(order, 2, 8), 1);
            doc.is("heaps of none and one", hill.heaps(order, 0, 2), -1);
            doc.is("heaps of none", hill.heaps(order, 0, 8), 0);
            doc.is("rules", Check.ruled("bx>x").down(order), 1);
            hill.rule(0, 1);
            doc.is("rules then", hill.down(order), 0);
        }
        stand(setting, 0, "bx", "x", 1);
    }

    // ---- promises 9 to 13

    private static String rowOf(Downhill hill) {
        char[] row = new char[5];
        for (int sign = 0; sign < 5; sign++) {
            row[hill.ofSign(sign, 1)] = "abcde".charAt(sign);
        }
        return new String(row);
    }

    private void rank() {
        doc.promise(9, "`IndexOutOfBoundsException` if there is no such SIGN, or place is not 0 to 4");
        doc.takes(Downhill::new, 0, 4, Check.INDEX, (hill, sign) -> hill.rank(sign, 2));
        doc.takes(Downhill::new, 0, 4, Check.INDEX, (hill, place) -> hill.rank(2, place));
        doc.refused("both", Downhill::new, Check.INDEX, hill -> hill.rank(5, -1));
        doc.promise(9, "A SIGN goes to another place of the ROW.");
        doc.promise(9, "its place then, 0 the lowest; the others stay in their sequence");
        doc.promise(9, "Returns its place before.");
        for (int sign = 0; sign < 5; sign++) {
            for (int place = 0; place < 5; place++) {
                Downhill hill = new Downhill();
                doc.is("of " + sign, hill.rank(sign, place), sign);
                String others = "abcde".replace("" + "abcde".charAt(sign), "");
                doc.is(sign + " to " + place, rowOf(hill), others.substring(0, place) + "abcde".charAt(sign)
                        + others.substring(place));
                doc.is("of " + sign + " then", hill.rank(sign, 4 - place), place);
            }
        }
    }

    private void way() {
        doc.promise(10, "`IndexOutOfBoundsException` if there is no such SIGN");
        doc.takes(Downhill::new, 0, 4, Check.INDEX, (hill, sign) -> hill.way(sign, 2));
        doc.refused("ahead of the way", Downhill::new, Check.INDEX, hill -> hill.way(5, 3));
        doc.promise(10, "`IllegalArgumentException` if way is not 0 to 2");
        doc.takes(Downhill::new, 0, 2, Check.ARGUMENT, (hill, way) -> hill.way(4, way));
        doc.promise(10, "Returns that before.");
        for (int sign = 0; sign < 5; sign++) {
            Downhill hill = new Downhill();
            int before = 0;
            for (int way : new int[] {2, 2, 1, 0, 1}) {
                doc.is("of " + sign, hill.way(sign, way), before);
                doc.is("told", hill.ofSign(sign, 2), way);
                before = way;
            }
        }
    }

    private void weight() {
        doc.promise(11, "`IndexOutOfBoundsException` if sign is not 0 to 5");
        doc.takes(Downhill::new, 0, 5, Check.INDEX, (hill, sign) -> hill.weight(sign, 1));
        doc.refused("ahead of the weight", Downhill::new, Check.INDEX, hill -> hill.weight(6, 10));
        doc.refused("ahead of 0", Downhill::new, Check.INDEX, hill -> hill.weight(6, 0));
        doc.promise(11, "`IllegalArgumentException` if weight is not 0 to 9, or it is 0 for the VARIABLES");
        for (int sign = 0; sign < 5; sign++) {
            int told = sign;
            doc.takes(Downhill::new, 0, 9, Check.ARGUMENT, (hill, weight) -> hill.weight(told, weight));
        }
        doc.takes(Downhill::new, 1, 9, Check.ARGUMENT, (hill, weight) -> hill.weight(5, weight));
        doc.promise(11, "a SIGN, or 5 for the VARIABLES");
        Downhill variables = new Downhill();
        variables.weight(5, 7);
        doc.is("theirs", variables.house(5), 7);
        for (int sign = 0; sign < 5; sign++) {
            doc.is("not that of the sign " + sign, variables.ofSign(sign, 3), 1);
        }
        doc.promise(11, "Returns that before.");
        for (int sign = 0; sign <= 5; sign++) {
            Downhill hill = new Downhill();
            int before = 1;
            for (int weight : new int[] {9, 9, 1, 2}) {
                doc.is("of " + sign, hill.weight(sign, weight), before);
                doc.is("told", sign < 5 ? hill.ofSign(sign, 3) : hill.house(5), weight);
                before = weight;
            }
        }
    }

    private void sum() {
        doc.promise(12, "`IndexOutOfBoundsException` if there is no such SIGN");
        doc.takes(Downhill::new, 0, 4, Check.INDEX, (hill, sign) -> hill.sum(sign, 1, 2, 3, 4));
        doc.refused("ahead of k", Downhill::new, Check.INDEX, hill -> hill.sum(5, 10, 0, 0, 0));
        doc.refused("ahead of r", Downhill::new, Check.INDEX, hill -> hill.sum(-1, 0, 0, 0, -1));
        doc.promise(12, "`IllegalArgumentException` if one is not 0 to 9");
        doc.takes(Downhill::new, 0, 9, Check.ARGUMENT, (hill, k) -> hill.sum(4, k, 2, 3, 4));
        doc.takes(Downhill::new, 0, 9, Check.ARGUMENT, (hill, p) -> hill.sum(4, 5, p, 3, 4));
        doc.takes(Downhill::new, 0, 9, Check.ARGUMENT, (hill, q) -> hill.sum(4, 5, 2, q, 4));
        doc.takes(Downhill::new, 0, 9, Check.ARGUMENT, (hill, r) -> hill.sum(4, 5, 2, 3, r));
        doc.promise(12, "Tells the numbers of a SIGN for SUMS.");
        for (int sign = 0; sign < 5; sign++) {
            Downhill hill = new Downhill();
            hill.sum(sign, 6, 7, 8, 9);
            for (int other = 0; other < 5; other++) {
                doc.is(sign + ", " + other, "" + hill.ofSign(other, 4) + hill.ofSign(other, 5) + hill.ofSign(other, 6)
                        + hill.ofSign(other, 7), other == sign ? "6789" : "1110");
            }
        }
        doc.promise(12, "Returns k before.");
        for (int sign = 0; sign < 5; sign++) {
            Downhill hill = new Downhill();
            doc.is(hill.sum(sign, 9, 0, 7, 6), 1);
            doc.is(hill.sum(sign, 9, 8, 7, 0), 9);
            doc.is(hill.sum(sign, 0, 9, 0, 9), 9);
            doc.is("0", hill.sum(sign, 2, 3, 4, 5), 0);
            doc.is("told", "" + hill.ofSign(sign, 4) + hill.ofSign(sign, 5) + hill.ofSign(sign, 6) + hill.ofSign(sign, 7),
                    "2345");
        }
    }

    private void base() {
        doc.promise(13, "`IllegalArgumentException` if base is not 0 to 3");
        doc.takes(Downhill::new, 0, 3, Check.ARGUMENT, Downhill::base);
        doc.promise(13, "Returns that before.");
        Downhill hill = new Downhill();
        int before = 0;
        for (int base : new int[] {3, 3, 1, 0, 2}) {
            doc.is(hill.base(base), before);
            doc.is("told", hill.house(6), base);
            before = base;
        }
    }

    // ---- promises 25 to 31

    private void compare() {
        Sentences.Maker six = with(AS_NEW, "x", "x", "x", "x", "x", "x");
        doc.promise(25, "`IndexOutOfBoundsException` if there is no such SLOT as one or other");
        for (int order = 0; order < 3; order++) {
            int by = order;
            doc.takes(six, 0, 5, Check.INDEX, (hill, one) -> hill.compare(by, one, 0));
            doc.takes(six, 0, 5, Check.INDEX, (hill, other) -> hill.compare(by, 0, other));
        }
        doc.refused("ahead of the order", Downhill::new, Check.INDEX, hill -> hill.compare(3, 6, 0));
        doc.refused("the other one ahead of the order", Downhill::new, Check.INDEX, hill -> hill.compare(-1, 0, -1));
        doc.promise(25, "`IllegalArgumentException` if order is not 0 to 2");
        doc.takes(six, 0, 2, Check.ARGUMENT, (hill, order) -> hill.compare(order, 0, 1));
        doc.refused("ahead of no term", Downhill::new, Check.ARGUMENT, hill -> hill.compare(3, 0, 0));
        doc.promise(25, "`NoSuchElementException` if one of both has no TERM");
        for (int order = 0; order < 3; order++) {
            int by = order;
            doc.refused("the first one", with(AS_NEW, "x"), Check.ELEMENT, hill -> hill.compare(by, 1, 0));
            doc.refused("the second one", with(AS_NEW, "x"), Check.ELEMENT, hill -> hill.compare(by, 0, 5));
            doc.refused("both", with(AS_NEW, "x"), Check.ELEMENT, hill -> hill.compare(by, 5, 5));
            doc.refused("though it is not good", with(hill -> {
                hill.weight(0, 0);
                hill.base(3);
            }, "x"), Check.ELEMENT, hill -> hill.compare(by, 0, 1));
        }
        doc.promise(25, "Returns 1 if the TERM of the first one is GREATER, -1 if it is LESS, 0 ALIKE, 2 APART.");
        Downhill hill = with(AS_NEW, "x", "", "", "y", "bx", "bx").hill();
        doc.is("" + hill.compare(0, 4, 0) + hill.compare(0, 0, 4) + hill.compare(0, 4, 5) + hill.compare(0, 4, 3), "1-102");
    }

    private void heaps() {
        Sentences.Maker six = with(AS_NEW, "x", "x", "x", "x", "x", "x");
        doc.promise(26, "`IllegalArgumentException` if order is not 0 to 2, or one or other not 0 to 63");
        doc.takes(six, 0, 2, Check.ARGUMENT, (hill, order) -> hill.heaps(order, 1, 2));
        doc.takes(six, 0, 63, Check.ARGUMENT, (hill, one) -> hill.heaps(0, one, 21));
        doc.takes(six, 0, 63, Check.ARGUMENT, (hill, other) -> hill.heaps(2, 42, other));
        doc.takes(Downhill::new, 0, 63, Check.ARGUMENT, (hill, other) -> hill.heaps(1, 0, other));
        doc.promise(26, "Returns of the HEAPS of their TERMS (of those that have one): 1 if the first one is MORE, -1 if the "
                + "other one is, 0 ALIKE, 2 otherwise.");
        for (int order = 0; order < 3; order++) {
            for (int one = 0; one < 64; one++) {
                int more = Integer.compare(Integer.bitCount(one), 3);
                doc.is(one + " and 7", six.hill().heaps(order, one, 7), more);
                doc.is("56 and " + one, six.hill().heaps(order, 56, one), -more);
            }
            Downhill two = with(AS_NEW, "", "bx", "", "", "x", "").hill();
            doc.is("those that have one", two.heaps(order, 63 - 16, 63 - 2), 1);
            doc.is("none that has one", two.heaps(order, 45, 0), 0);
            doc.is("one that has one", two.heaps(order, 45, 16), -1);
            doc.is("none in any slot", new Downhill().heaps(order, 63, 1), 0);
        }
    }

    private void down() {
        doc.section(2, "A RULE goes down by an ORDER, if its left TERM is GREATER than its right one.");
        doc.promise(27, "`IllegalArgumentException` if order is not 0 to 2");
        doc.takes(() -> Check.ruled("bx>x", "ex>ex"), 0, 2, Check.ARGUMENT, Downhill::down);
        doc.takes(Downhill::new, 0, 2, Check.ARGUMENT, Downhill::down);
        doc.promise(27, "Returns the set of RULES that go down by it.");
        for (int order = 0; order < 3; order++) {
            doc.is("no rule", new Downhill().down(order), 0);
            doc.is("all five", Check.ruled("bx>x", "bx>x", "bx>x", "bx>x", "bx>x").down(order), 31);
            doc.is("none", Check.ruled("bx>bx", "bx>bbx").down(order), 0);
            doc.is("first and last", Check.ruled("bx>x", "bx>bx", "bx>bbx", "cxy>cyx", "bbx>bx").down(order), 17);
            Downhill hill = Check.ruled("bx>x", "bbx>x");
            hill.unrule();
            doc.is("the one that is left", hill.down(order), 1);
        }
        doc.is("less than it is the other way", Check.ruled("a>d").down(0), 0);
        doc.is("alike", Check.ruled("d>a").down(2), 0);
        doc.is("greater", Check.ruled("d>a").down(0), 1);
    }

    private void isGood() {
        doc.promise(28, "`IllegalArgumentException` if order is not 0 to 2");
        doc.takes(Downhill::new, 0, 2, Check.ARGUMENT, Downhill::isGood);
        doc.promise(28, "Returns whether it is GOOD (PATHS always are).");
        Setting none = hill -> {
            hill.weight(0, 0);
            hill.base(3);
            hill.sum(1, 0, 0, 0, 0);
            hill.arity(0, 1);
            hill.arity(3, 1);
        };
        good(0, true, none);
        good(1, false, none);
        good(2, false, none);
        for (int order = 0; order < 3; order++) {
            good(order, true, AS_NEW);
        }
    }

    private static List<String> rows(String signs) {
        List<String> rows = new ArrayList<>();
        if (signs.isEmpty()) {
            rows.add("");
        }
        for (char first : signs.toCharArray()) {
            for (String rest : rows(signs.replace("" + first, ""))) {
                rows.add(first + rest);
            }
        }
        return rows;
    }

    private static Downhill constants() {
        Downhill hill = new Downhill();
        for (int sign = 0; sign < 5; sign++) {
            hill.arity(sign, 0);
        }
        return hill;
    }

    private void everyRow() {
        doc.section(2, "All ROWS stand in their order as texts (\"abcde\" first, \"edcba\" last).");
        List<String> rows = rows("abcde");
        doc.is("how many", rows.size(), 120);
        for (String row : rows) {
            Downhill hill = constants();
            for (int i = 3; i >= 0; i--) {
                Check.rule(hill, row.charAt(i + 1) + ">" + row.charAt(i));
            }
            doc.is(row, hill.row(), row);
            doc.is(row + " goes down all", hill.stuck(), 0);
            Check.rule(hill, row.charAt(0) + ">" + row.charAt(4));
            doc.is(row + " round", hill.row(), "-");
            doc.is(row + " round, stuck", hill.stuck(), 31);
        }
        for (char high : "abcde".toCharArray()) {
            for (char low : "abcde".toCharArray()) {
                String first = "-";
                for (String row : rows) {
                    first = first.equals("-") && row.indexOf(high) > row.indexOf(low) ? row : first;
                }
                Downhill hill = constants();
                Check.rule(hill, high + ">" + low);
                doc.is(high + " above " + low, hill.row(), first);
            }
        }
    }

    private void row() {
        doc.promise(29, "Returns the first ROW by which all RULES go down by PATHS, with the WAYS as they are; \"-\" if there "
                + "is none.");
        doc.is("no rule", new Downhill().row(), "abcde");
        doc.is("a rule by any row", Check.ruled("bx>x").row(), "abcde");
        doc.is("a rule by none", Check.ruled("bx>bx").row(), "-");
        doc.is("one of five by none", Check.ruled("bx>x", "bx>x", "bx>x", "bx>x", "bx>bx").row(), "-");
        Downhill hill = Check.ruled("bx>x", "bx>bx");
        hill.unrule();
        doc.is("the one that is left", hill.row(), "abcde");
        Downhill ranked = Check.ruled("d>a");
        ranked.rank(0, 4);
        doc.is("not the row that is told", ranked.row(), "abcde");
        String[] due = {"abcde", "-", "-"};
        for (int way = 0; way < 3; way++) {
            Downhill by = Check.ruled("ccxyz>cxcyz");
            by.way(2, way);
            doc.is("way " + way, by.row(), due[way]);
        }
    }

    private void stuck() {
        doc.promise(30, "Returns the set of RULES, the fewest, then the smallest set, that do not all go down by PATHS, whatever "
                + "the ROW is; 0, if row() is one.");
        doc.is("no rule", new Downhill().stuck(), 0);
        doc.is("row() is one", Check.ruled("bex>ebx", "bex>ebx").stuck(), 0);
        for (int at = 0; at < 5; at++) {
            Downhill hill = new Downhill();
            for (int i = 0; i < 5; i++) {
                Check.rule(hill, i == at ? "a>ba" : "d>a");
            }
            doc.is("one alone", hill.stuck(), 1 << at);
        }
        doc.is("the first of two alone", Check.ruled("d>a", "bx>bx", "ex>ex").stuck(), 2);
        doc.is("one is fewer than two", Check.ruled("a>d", "d>a", "bx>bx").stuck(), 4);
        doc.is("two are fewer than three", Check.ruled("bx>ex", "ex>cxx", "cxy>bx", "a>d", "d>a").stuck(), 24);
        doc.is("the smallest set of two", Check.ruled("a>d", "d>a", "d>a", "a>d").stuck(), 3);
        doc.is("the smallest set of others", Check.ruled("bx>x", "a>d", "a>d", "d>a", "d>a").stuck(), 10);
        Downhill hill = Check.ruled("a>d", "d>a");
        doc.is("both", hill.stuck(), 3);
        hill.unrule();
        doc.is("no more", hill.stuck(), 0);
        Downhill by = Check.ruled("ccxyz>cxcyz");
        doc.is("by the ways as they are", by.stuck(), 0);
        by.way(2, 2);
        doc.is("by other ways", by.stuck(), 1);
    }

    private void differ() {
        doc.promise(31, "Returns the first two CLOSED TERMS up to that SIZE, the first one ahead of the second one in their order "
                + "(by the second one's place, then by the first one's), of which compare() would tell another number by the "
                + "other ORDER, with a blank between; \"-\" without any.");
        Downhill hill = new Downhill();
        doc.is("up to 1", hill.differ(0, 1, 1), "-");
        doc.is("up to 2", hill.differ(0, 1, 2), "d ba");
        doc.is("up to 3", hill.differ(0, 1, 3), "d ba");
        doc.is("the other way", hill.differ(1, 0, 3), "d ba");
        doc.is("up to 1 by sums", hill.differ(0, 2, 1), "a d");
        for (int order = 0; order < 3; order++) {
            doc.is("by itself", hill.differ(order, order, 3), "-");
        }
        Downhill ranked = new Downhill();
        ranked.rank(1, 3);
        doc.is("by the second one's place, not \"d caa\"", ranked.differ(0, 1, 3), "ea bba");
        doc.is("which is of size 3", ranked.differ(0, 1, 2), "-");
        Downhill heavy = new Downhill();
        heavy.weight(3, 2);
        doc.is("by the second one's place, not \"d bba\"", heavy.differ(0, 1, 3), "bd ea");
        Downhill bad = new Downhill();
        bad.weight(0, 0);
        doc.is("one is not good", bad.differ(0, 1, 1), "a d");
        doc.is("the other one is not", bad.differ(1, 2, 1), "a d");
        bad.base(2);
        doc.is("both are not", bad.differ(2, 1, 3), "-");
        Downhill one = new Downhill();
        one.arity(3, 2);
        one.weight(0, 0);
        doc.is("one closed term has none ahead", one.differ(0, 1, 1), "-");
        doc.is("two have", one.differ(0, 1, 2), "a ba");
        one.arity(0, 1);
        doc.is("no closed term", one.differ(0, 1, 3), "-");
        Downhill many = new Downhill();
        many.arity(0, 1);
        many.arity(1, 0);
        many.arity(2, 1);
        many.sum(1, 1, 1, 1, 0);
        many.sum(3, 2, 1, 1, 0);
        many.rank(4, 0);
        doc.is("many closed terms", many.differ(0, 2, 3), "d ab");
    }

    private void differRefused() {
        doc.promise(31, "`IllegalArgumentException` if order or other is not 0 to 2, or size not 1 to 3");
        doc.takes(Downhill::new, 0, 2, Check.ARGUMENT, (hill, order) -> hill.differ(order, 0, 1));
        doc.takes(Downhill::new, 0, 2, Check.ARGUMENT, (hill, other) -> hill.differ(1, other, 2));
        doc.takes(Downhill::new, 1, 3, Check.ARGUMENT, (hill, size) -> hill.differ(0, 1, size));
        doc.refused("by one order alone", Downhill::new, Check.ARGUMENT, hill -> hill.differ(2, 2, 0));
    }
}
