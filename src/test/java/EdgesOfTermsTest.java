import java.io.IOException;

/** The edges of terms and rules: section 1, promises 1 to 8 and 20 to 24. */
public final class EdgesOfTermsTest {
    private final Sentences doc = new Sentences();

    private EdgesOfTermsTest() throws IOException {
    }

    public static void main(String[] args) throws IOException {
        EdgesOfTermsTest test = new EdgesOfTermsTest();
        test.newObject();
        test.letters();
        test.faults();
        test.putIn();
        test.steps();
        test.arityTakes();
        test.arityOfSignInUse();
        test.sayLetters();
        test.sayTakes();
        test.sayTooMuch();
        test.keep();
        test.keepWithFault();
        test.put();
        test.putTooLong();
        test.cut();
        test.rule();
        test.ruleOfWrongTerms();
        test.fiveRules();
        test.unrule();
        test.term();
        test.part();
        test.typed();
        test.side();
        test.doc.end("edges of terms", new int[] {1}, new int[] {1, 2, 3, 4, 5, 6, 7, 8, 20, 21, 22, 23, 24});
    }

    private static Downhill typing(String letters) {
        Downhill hill = new Downhill();
        Check.type(hill, letters);
        return hill;
    }

    /** Five RULES, the SLOTS 0 to 3 with "x", "bx", "ey" and "a", none in 4 and 5. */
    private static Downhill full() {
        Downhill hill = Check.hill("x", "bx", "ey", "a");
        for (int i = 0; i < 5; i++) {
            hill.rule(1, 0);
        }
        return hill;
    }

    private static Downhill few() {
        return Check.hill("cxby", "by", "x", "a");
    }

    private void newObject() {
        doc.promise(1, "Creates a hill without terms.");
        Downhill hill = new Downhill();
        for (int slot = 0; slot < 6; slot++) {
            doc.is("slot " + slot, hill.term(slot), "");
        }
        doc.is("slots with a term", hill.house(0), 0);
        doc.is("rules", hill.house(1), 0);
        doc.is("steps back", hill.house(7), 0);
        doc.is("another one is new, too", Sentences.all(full()).equals(Sentences.all(new Downhill())), false);
        doc.is("and as this one", Sentences.all(new Downhill()), Sentences.all(hill));
    }

    private void letters() {
        doc.section(1, "each with an ARITY (0 to 2; at first 0, 1, 2, 0, 1); VARIABLES are \"x\", \"y\", \"z\" (5 to 7)");
        int[] arities = {0, 1, 2, 0, 1};
        for (int sign = 0; sign < 5; sign++) {
            doc.is(new Downhill().ofSign(sign, 0), arities[sign]);
        }
        for (int letter = 0; letter < 8; letter++) {
            Downhill hill = new Downhill();
            hill.say(letter, -1, -1, -1, -1, -1);
            doc.is("letter " + letter, hill.typed(), "" + "abcdexyz".charAt(letter));
        }
        doc.section(1, "a VARIABLE, or a SIGN and behind it as many TERMS as its ARITY tells");
        String[] terms = {"x", "z", "a", "d", "bx", "ea", "cxa", "ccabxd", "bbbbbbbbbbba", "cxcxcxcxcxby"};
        for (String term : terms) {
            doc.is(term, typing(term).keep(0), term.length());
        }
        for (String none : new String[] {"b", "c", "ca", "xa", "aa", "bxa", "cxab"}) {
            doc.is(none, typing(none).keep(0) < -1, true);
        }
        doc.section(1, "told as its letters in a row (\"cabx\"); its SIZE is how many these are");
        doc.is(Check.hill("cabx").term(0), "cabx");
        doc.is(typing("cabx").keep(0), 4);
        doc.section(1, "PART of a TERM at a place (a letter, from 0 on): the TERM that begins there");
        String[] parts = {"ccaxby", "cax", "a", "x", "by", "y"};
        for (int place = 0; place < 6; place++) {
            doc.is(Check.hill("ccaxby").part(0, place), parts[place]);
        }
        doc.section(1, "SLOTS 0 to 5 have a TERM each, of a SIZE up to 12, or none (at first)");
        for (int slot = 0; slot < 6; slot++) {
            Downhill hill = typing("cxcxcxcxcxby");
            doc.is("none at first", hill.term(slot), "");
            doc.is("12", hill.keep(slot), 12);
            doc.is("slots that have one", hill.house(0), 1);
        }
    }

    private void faults() {
        doc.section(1, "TYPED is a row of at most 12 letters (none at first)");
        doc.is(new Downhill().typed(), "");
        doc.is(typing("abcdexyzabcd").typed(), "abcdexyzabcd");
        doc.section(1, "the place of the first letter behind a whole TERM; its length, if it ends too early "
                + "(also if there is nothing); NONE, if it is a TERM.");
        String[] typed = {"", "a", "x", "b", "c", "ax", "xx", "ba", "bb", "ca", "caa", "caaa", "cabx", "cabxd", "cabb",
            "bbbbbbbbbbba", "bbbbbbbbbbbb", "bbbbbbbbbbax", "xbbbbbbbbbbb", "ccccccaaaaaa", "cccccaaaaaab", "ccccccccccca"};
        int[] due = {0, -1, -1, 1, 1, 1, 1, -1, 2, 2, -1, 3, -1, 4, 4, -1, 12, 11, 1, 12, 11, 12};
        for (int i = 0; i < typed.length; i++) {
            doc.is("\"" + typed[i] + "\"", typing(typed[i]).fault(), due[i]);
        }
        doc.promise(23, "Returns the FAULT of TYPED.");
        Downhill hill = typing("cxa");
        doc.is(hill.fault(), -1);
        hill.arity(2, 1);
        doc.is("by the arities as they are", hill.fault(), 2);
        hill.arity(2, 0);
        doc.is("0", hill.fault(), 1);
        hill.undo();
        hill.undo();
        doc.is("which come back", hill.fault(), -1);
    }

    private void putIn() {
        doc.section(1, "each VARIABLE becomes its TERM, all at once");
        Downhill hill = Check.hill("cxcxy", "cxy", "y");
        doc.is(hill.put(0, 5, 1, 3), 9);
        doc.is(hill.term(3), "ccxyccxyy");
        hill.put(0, 5, 2, 3);
        doc.is(hill.term(3), "cycyy");
        Downhill ruled = Check.ruled("cxcyz>czccxyx");
        Check.keep(ruled, 0, "cycxbz");
        doc.is("three at once", ruled.reduct(0, 0), "cbzccyxy");
    }

    private void steps() {
        doc.section(1, "INSTANCE of another one, if it is that with some TERMS put in");
        String[][] steps = {{"bx>x", "bx", "x"}, {"bx>x", "by", "y"}, {"bx>x", "bcaa", "caa"}, {"ba>a", "bx", ""},
            {"ba>a", "bd", ""}, {"cxx>x", "caa", "a"}, {"cxx>x", "cad", ""}, {"cxx>x", "cyy", "y"}, {"cxx>x", "cxy", ""},
            {"cxx>x", "cbaba", "ba"}, {"cxx>x", "cbabx", ""}, {"cxy>y", "caa", "a"}, {"cxcyx>y", "cbacdba", "d"},
            {"cxcyx>y", "cbacdbd", ""}, {"bbx>x", "bx", ""}, {"bbx>x", "bba", "a"}, {"a>d", "a", "d"}, {"a>d", "d", ""}};
        for (String[] step : steps) {
            Downhill hill = Check.ruled(step[0]);
            Check.keep(hill, 0, step[1]);
            doc.is(step[0] + " of " + step[1], hill.reduct(0, 0), step[2]);
        }
        doc.section(1, "the right one, with the same TERMS put in, stands there then");
        Downhill hill = Check.ruled("bx>cxx");
        Check.keep(hill, 0, "cebabd");
        doc.is("in the middle", hill.reduct(0, 0), "cecaabd");
        doc.is("at the end", hill.reduct(0, 1), "cebacdd");
        doc.is("no third one", hill.reduct(0, 2), "");
    }

    // ---- promises 2 to 8

    private void arityTakes() {
        doc.promise(2, "`IndexOutOfBoundsException` if there is no such SIGN");
        doc.takes(Downhill::new, 0, 4, Check.INDEX, (hill, sign) -> hill.arity(sign, 0));
        doc.refused("ahead of the arity", Downhill::new, Check.INDEX, hill -> hill.arity(5, 3));
        doc.refused("ahead of the arity below", Downhill::new, Check.INDEX, hill -> hill.arity(-1, -1));
        doc.promise(2, "`IllegalArgumentException` if arity is not 0 to 2");
        for (int sign = 0; sign < 5; sign++) {
            int told = sign;
            doc.takes(Downhill::new, 0, 2, Check.ARGUMENT, (hill, arity) -> hill.arity(told, arity));
        }
        doc.refused("ahead of the slot", () -> Check.hill("ba"), Check.ARGUMENT, hill -> hill.arity(1, 3));
        doc.refused("ahead of the rule", EdgesOfTermsTest::full, Check.ARGUMENT, hill -> hill.arity(1, -1));
        doc.promise(2, "Returns that before.");
        for (int sign = 0; sign < 5; sign++) {
            Downhill hill = new Downhill();
            doc.is(hill.arity(sign, 2), new int[] {0, 1, 2, 0, 1}[sign]);
            doc.is("the same again", hill.arity(sign, 2), 2);
            doc.is("0", hill.arity(sign, 0), 2);
            doc.is("told", hill.ofSign(sign, 0), 0);
        }
    }

    private void arityOfSignInUse() {
        doc.promise(2, "if the SIGN stands in a SLOT or in a RULE");
        for (int slot = 0; slot < 6; slot++) {
            int in = slot;
            Sentences.Maker maker = () -> {
                Downhill hill = typing("cbad");
                hill.keep(in);
                return hill;
            };
            for (int sign = 0; sign < 4; sign++) {
                int told = sign;
                doc.refused("in slot " + slot, maker, Check.STATE, hill -> hill.arity(told, 1));
            }
            doc.refused("the same arity", maker, Check.STATE, hill -> hill.arity(1, 1));
            doc.is("not the sign that is in none", maker.hill().arity(4, 2), 1);
            Downhill hill = maker.hill();
            Check.keep(hill, slot, "x");
            doc.is("no more in it", hill.arity(1, 2), 1);
        }
        for (int rules = 1; rules <= 5; rules++) {
            int more = rules - 1;
            Sentences.Maker maker = () -> {
                Downhill hill = new Downhill();
                for (int i = 0; i < more; i++) {
                    Check.rule(hill, "a>d");
                }
                Check.rule(hill, "bx>ex");
                Check.keep(hill, 4, "x");
                Check.keep(hill, 5, "x");
                return hill;
            };
            doc.refused("left in the rule " + more, maker, Check.STATE, hill -> hill.arity(1, 2));
            doc.refused("right in the rule " + more, maker, Check.STATE, hill -> hill.arity(4, 0));
            doc.is("in none", maker.hill().arity(2, 0), 2);
            Downhill hill = maker.hill();
            hill.unrule();
            doc.is("left in none more", hill.arity(1, 2), 1);
            doc.is("right in none more", hill.arity(4, 0), 1);
            hill.undo();
            hill.undo();
            hill.undo();
            doc.is("in one again", Sentences.answer(hill, it -> it.arity(4, 0)), Check.STATE.getName());
        }
        doc.is("in TYPED alone", typing("cba").arity(1, 0), 1);
    }

    private void sayLetters() {
        doc.promise(3, "0 to 7 a letter, 8: the last one goes (if there is one), 9: all go, NONE nothing");
        String[] due = {"caba", "cabb", "cabc", "cabd", "cabe", "cabx", "caby", "cabz", "ca", ""};
        for (int letter = -1; letter <= 9; letter++) {
            Downhill hill = typing("cab");
            Downhill none = new Downhill();
            hill.say(letter, -1, -1, -1, -1, -1);
            none.say(-1, -1, -1, -1, -1, letter);
            doc.is("" + letter, hill.typed(), letter < 0 ? "cab" : due[letter]);
            doc.is(letter + " of none", none.typed(), letter < 0 || letter > 7 ? "" : "" + "abcdexyz".charAt(letter));
        }
        doc.promise(3, "Types letters behind TYPED, one after the other.");
        Downhill hill = typing("c");
        hill.say(0, 1, 2, 3, 4, 5);
        doc.is(hill.typed(), "cabcdex");
        hill.say(6, 8, 7, 8, 8, 6);
        doc.is("some go", hill.typed(), "cabcdey");
        hill.say(6, 9, 7, -1, 8, 5);
        doc.is("all go", hill.typed(), "x");
    }

    private void sayTakes() {
        doc.promise(3, "`IllegalArgumentException` if one is not -1 to 9");
        for (int at = 0; at < 6; at++) {
            int place = at;
            doc.takes(() -> typing("cab"), -1, 9, Check.ARGUMENT, (hill, value) -> {
                int[] said = {-1, -1, -1, -1, -1, -1};
                said[place] = value;
                return hill.say(said[0], said[1], said[2], said[3], said[4], said[5]);
            });
        }
        doc.refused("behind other letters", () -> typing("cab"), Check.ARGUMENT, hill -> hill.say(9, 0, 8, 1, 2, 10));
        doc.refused("ahead of too many", () -> typing("bbbbbbbbbbbb"), Check.ARGUMENT, hill -> hill.say(0, 0, 0, 0, 0, -2));
        doc.promise(3, "Returns how long TYPED is then.");
        doc.is("nothing", new Downhill().say(-1, -1, -1, -1, -1, -1), 0);
        doc.is("the last one goes of none", new Downhill().say(8, -1, -1, -1, -1, -1), 0);
        doc.is("all go of none", new Downhill().say(9, -1, -1, -1, -1, -1), 0);
        doc.is("of none, then one", new Downhill().say(8, 9, 8, 0, -1, 8), 0);
        doc.is("one after the other", typing("cab").say(8, 3, 9, 1, 2, 8), 1);
        doc.is("nothing in between", typing("cab").say(-1, 3, -1, 1, -1, 2), 6);
        Downhill hill = typing("cab");
        doc.is(hill.say(8, 8, 5, 6, 7, 4), 5);
        doc.is("letters", hill.typed(), "cxyze");
        doc.is("twelve go", typing("bbbbbbbbbbbb").say(9, -1, -1, -1, -1, -1), 0);
        doc.is("one of twelve goes", typing("bbbbbbbbbbbb").say(-1, -1, -1, -1, -1, 8), 11);
    }

    private void sayTooMuch() {
        doc.promise(3, "`IllegalStateException` if it would be longer than 12 at some moment");
        doc.is("just 12", typing("bbbbbb").say(0, 1, 2, 3, 4, 5), 12);
        doc.is("the last one of 12", typing("bbbbbbbbbbb").say(-1, -1, -1, -1, -1, 0), 12);
        doc.is("12 and nothing more", typing("bbbbbbbbbbbb").say(-1, -1, -1, -1, -1, -1), 12);
        doc.is("one goes ahead", typing("bbbbbbbbbbbb").say(8, 0, 8, 1, 8, 2), 12);
        doc.is("all go ahead", typing("bbbbbbbbbbbb").say(9, 0, 0, 0, 0, 0), 5);
        doc.refused("13", () -> typing("bbbbbbb"), Check.STATE, hill -> hill.say(0, 0, 0, 0, 0, 0));
        doc.refused("13 by the first one", () -> typing("bbbbbbbbbbbb"), Check.STATE, hill -> hill.say(0, -1, -1, -1, -1, -1));
        doc.refused("one goes behind", () -> typing("bbbbbbbbbbbb"), Check.STATE, hill -> hill.say(7, 8, -1, -1, -1, -1));
        doc.refused("all go behind", () -> typing("bbbbbbbbbbb"), Check.STATE, hill -> hill.say(0, 0, 9, -1, -1, -1));
        doc.refused("too few go ahead", () -> typing("bbbbbbbbbbbb"), Check.STATE, hill -> hill.say(8, 0, 0, 9, 0, 0));
        Downhill hill = typing("bbbbbbbbbbbb");
        Sentences.answer(hill, it -> it.say(8, 8, 0, 0, 0, 0));
        doc.is("what stays", hill.typed(), "bbbbbbbbbbbb");
        doc.is("what comes behind it", hill.say(8, 8, 5, -1, -1, -1), 11);
        doc.is("is typed behind it", hill.typed(), "bbbbbbbbbbx");
        hill.undo();
        doc.is("and behind what is undone", hill.say(8, -1, -1, -1, -1, -1), 11);
        Check.keep(hill, 0, "cxy");
        hill.say(8, 0, -1, -1, -1, -1);
        hill.cut(0, 1, 1);
        doc.is("cut", hill.say(8, 3, -1, -1, -1, -1), 3);
        hill.put(0, 5, 0, 2);
        doc.is("put", hill.say(-1, 4, -1, -1, -1, -1), 4);
        doc.is("behind both", hill.typed(), "cxde");
    }

    private void keep() {
        doc.promise(4, "`IndexOutOfBoundsException` if there is no such SLOT");
        doc.takes(() -> typing("cab"), 0, 5, Check.INDEX, Downhill::keep);
        doc.takes(() -> typing("cabx"), 0, 5, Check.INDEX, Downhill::keep);
        doc.refused("ahead of the fault", Downhill::new, Check.INDEX, hill -> hill.keep(6));
        doc.promise(4, "Returns its SIZE;");
        doc.is("1", typing("z").keep(0), 1);
        doc.is("12", typing("bbbbbbbbbbbz").keep(0), 12);
        doc.promise(4, "A SLOT has the TERM that is TYPED (TYPED stays).");
        Downhill hill = typing("cabx");
        hill.keep(3);
        doc.is("TYPED stays", hill.typed(), "cabx");
        Check.keep(hill, 3, "a");
        doc.is("another one in its place", hill.term(3), "a");
        hill.undo();
        doc.is("the one before", hill.term(3), "cabx");
    }

    private void keepWithFault() {
        doc.promise(4, "-2 less the FAULT, if there is one (and nothing is changed)");
        String[] typed = {"", "b", "ax", "xy", "cab", "bbbbbbbbbbbb", "bbbbbbbbbbax"};
        int[] due = {-2, -3, -3, -3, -5, -14, -13};
        for (int i = 0; i < typed.length; i++) {
            Downhill hill = Check.hill("x", "bx", "a");
            Downhill twin = Check.hill("x", "bx", "a");
            Check.type(hill, typed[i]);
            Check.type(twin, typed[i]);
            doc.is("\"" + typed[i] + "\"", hill.keep(1), due[i]);
            doc.is("\"" + typed[i] + "\" once more", hill.keep(5), due[i]);
            doc.is("what it leaves", Sentences.all(hill), Sentences.all(twin));
            doc.is("no step back", hill.undo(), twin.undo());
            doc.is("what the step back leaves", Sentences.all(hill), Sentences.all(twin));
        }
    }

    private void put() {
        doc.promise(5, "`IndexOutOfBoundsException` if there is no such SLOT as slot, by or to");
        Sentences.Maker six = () -> Check.hill("x", "x", "x", "x", "x", "x");
        doc.takes(six, 0, 5, Check.INDEX, (hill, slot) -> hill.put(slot, 5, 0, 0));
        doc.takes(six, 0, 5, Check.INDEX, (hill, by) -> hill.put(0, 5, by, 0));
        doc.takes(six, 0, 5, Check.INDEX, (hill, to) -> hill.put(0, 5, 0, to));
        doc.refused("slot ahead of all", Downhill::new, Check.INDEX, hill -> hill.put(6, 4, 0, 0));
        doc.refused("by ahead of all", Downhill::new, Check.INDEX, hill -> hill.put(0, 8, -1, 0));
        doc.refused("to ahead of all", Downhill::new, Check.INDEX, hill -> hill.put(0, 8, 0, 6));
        doc.refused("to ahead of the size", () -> Check.hill("cxx", "bbbbbba"), Check.INDEX, hill -> hill.put(0, 5, 1, -1));
        doc.promise(5, "a VARIABLE (5 to 7)");
        for (int variable = 5; variable <= 7; variable++) {
            Downhill hill = Check.hill("ccxyz", "ba");
            hill.put(0, variable, 1, 2);
            doc.is("" + variable, hill.term(2), "ccxyz".replace("" + "xyz".charAt(variable - 5), "ba"));
        }
        doc.promise(5, "`IllegalArgumentException` if variable is none");
        doc.takes(six, 5, 7, Check.ARGUMENT, (hill, variable) -> hill.put(0, variable, 1, 2));
        doc.refused("ahead of no term", Downhill::new, Check.ARGUMENT, hill -> hill.put(0, 4, 0, 0));
        doc.refused("ahead of the size", () -> Check.hill("cxx", "bbbbbba"), Check.ARGUMENT, hill -> hill.put(0, 8, 1, 0));
        doc.promise(5, "`NoSuchElementException` if slot or by has no TERM");
        doc.refused("slot", EdgesOfTermsTest::few, Check.ELEMENT, hill -> hill.put(4, 5, 0, 0));
        doc.refused("by", EdgesOfTermsTest::few, Check.ELEMENT, hill -> hill.put(0, 5, 4, 0));
        doc.refused("by, though it is not put in", EdgesOfTermsTest::few, Check.ELEMENT, hill -> hill.put(0, 7, 5, 0));
        doc.refused("both", Downhill::new, Check.ELEMENT, hill -> hill.put(0, 5, 0, 0));
        doc.refused("ahead of the size", () -> Check.hill("bbbbbbbbbbbx"), Check.ELEMENT, hill -> hill.put(0, 5, 1, 0));
        doc.is("to needs none", few().put(0, 5, 3, 4), 4);
    }

    private void putTooLong() {
        doc.promise(5, "`IllegalStateException` if its SIZE would be above 12");
        doc.is("12 of once", Check.hill("bbbbbx", "bbbbbba").put(0, 5, 1, 2), 12);
        doc.refused("13 of once", () -> Check.hill("bbbbbbx", "bbbbbba"), Check.STATE, hill -> hill.put(0, 5, 1, 2));
        doc.is("12 of twice", Check.hill("bbcxbx", "bbba").put(0, 5, 1, 2), 12);
        doc.refused("13 of twice", () -> Check.hill("bbbcxbx", "bbba"), Check.STATE, hill -> hill.put(0, 5, 1, 0));
        doc.refused("of six, 67", () -> Check.hill("cxcxcxcxcxx", "bbbbbbbbbbba"), Check.STATE, hill -> hill.put(0, 5, 1, 1));
        doc.is("12 without the variable", Check.hill("bbbbbbbbbbbx", "bbbbbbbbbbba").put(0, 6, 1, 2), 12);
        doc.is("12 by a term of one letter", Check.hill("bbbbbbbbbbbx", "z").put(0, 5, 1, 2), 12);
        doc.promise(5, "A SLOT has a TERM in which one is put in for a VARIABLE.");
        doc.promise(5, "Returns its SIZE.");
        Downhill hill = few();
        doc.is(hill.put(0, 6, 1, 0), 5);
        doc.is("where it was", hill.term(0), "cxbby");
        doc.is("by itself, to itself", hill.put(1, 6, 1, 1), 3);
        doc.is("bby", hill.term(1), "bby");
        doc.is("a variable alone", hill.put(2, 5, 3, 5), 1);
        doc.is("a", hill.term(5), "a");
        doc.is("what is put in may have none", hill.put(3, 5, 0, 4), 1);
        Downhill alone = Check.hill("x", "cabx", "bbbbbbbbbbbx");
        doc.is("4 for a variable alone", alone.put(0, 5, 1, 3), 4);
        doc.is("12 for a variable alone", alone.put(0, 5, 2, 4), 12);
        doc.is(alone.term(3) + " " + alone.term(4), "cabx bbbbbbbbbbbx");
    }

    private void cut() {
        doc.promise(6, "`IndexOutOfBoundsException` if there is no such SLOT as slot or to, "
                + "or no such place in the TERM (in none there is none)");
        Sentences.Maker six = () -> Check.hill("x", "x", "x", "x", "x", "x");
        doc.takes(six, 0, 5, Check.INDEX, (hill, slot) -> hill.cut(slot, 0, 0));
        doc.takes(six, 0, 5, Check.INDEX, (hill, to) -> hill.cut(0, 0, to));
        doc.takes(six, 0, 0, Check.INDEX, (hill, place) -> hill.cut(0, place, 1));
        doc.takes(() -> Check.hill("cxby"), 0, 3, Check.INDEX, (hill, place) -> hill.cut(0, place, 1));
        doc.takes(() -> Check.hill("bbbbbbbbbbba"), 0, 11, Check.INDEX, (hill, place) -> hill.cut(0, place, 0));
        for (int place : new int[] {-1, 0, 1}) {
            doc.refused("in none", () -> Check.hill("", "cxby"), Check.INDEX, hill -> hill.cut(0, place, 1));
        }
        Downhill shorter = Check.hill("cxby");
        shorter.cut(0, 2, 0);
        doc.is("the last place then", shorter.cut(0, 1, 1), 1);
        doc.refused("a place that it had", () -> {
            Downhill hill = Check.hill("cxby");
            hill.cut(0, 2, 0);
            return hill;
        }, Check.INDEX, hill -> hill.cut(0, 2, 1));
        doc.promise(6, "A SLOT has a PART of a TERM.");
        Downhill hill = Check.hill("ccaxby", "x");
        hill.cut(0, 4, 1);
        doc.is("in another slot", hill.term(1) + " " + hill.term(0), "by ccaxby");
        hill.cut(0, 1, 0);
        doc.is("in its own", hill.term(1) + " " + hill.term(0), "by cax");
        doc.promise(6, "Returns its SIZE.");
        int[] sizes = {6, 3, 1, 1, 2, 1};
        for (int place = 0; place < 6; place++) {
            doc.is("place " + place, Check.hill("ccaxby").cut(0, place, 5), sizes[place]);
        }
    }

    private void rule() {
        doc.promise(7, "`IndexOutOfBoundsException` if there is no such SLOT as left or right");
        Sentences.Maker six = () -> Check.hill("a", "a", "a", "a", "a", "a");
        doc.takes(six, 0, 5, Check.INDEX, (hill, left) -> hill.rule(left, 0));
        doc.takes(six, 0, 5, Check.INDEX, (hill, right) -> hill.rule(0, right));
        doc.refused("ahead of no term", Downhill::new, Check.INDEX, hill -> hill.rule(6, 0));
        doc.refused("right ahead of no term", Downhill::new, Check.INDEX, hill -> hill.rule(0, -1));
        doc.refused("ahead of a variable", EdgesOfTermsTest::full, Check.INDEX, hill -> hill.rule(0, 6));
        doc.promise(7, "`NoSuchElementException` if left or right has no TERM");
        doc.refused("left", EdgesOfTermsTest::few, Check.ELEMENT, hill -> hill.rule(4, 0));
        doc.refused("right", EdgesOfTermsTest::few, Check.ELEMENT, hill -> hill.rule(0, 4));
        doc.refused("both", Downhill::new, Check.ELEMENT, hill -> hill.rule(0, 0));
        doc.refused("right, ahead of a variable left", EdgesOfTermsTest::few, Check.ELEMENT, hill -> hill.rule(2, 5));
        doc.refused("left, ahead of a variable right", EdgesOfTermsTest::few, Check.ELEMENT, hill -> hill.rule(5, 2));
        doc.refused("ahead of five rules", EdgesOfTermsTest::full, Check.ELEMENT, hill -> hill.rule(1, 5));
    }

    private void ruleOfWrongTerms() {
        doc.section(1, "a left TERM, which is no VARIABLE, and a right one, which has no VARIABLES but those of the left one");
        doc.promise(7, "if the left one is a VARIABLE, or the right one has a VARIABLE that the left one has not");
        for (String variable : new String[] {"x", "y", "z"}) {
            doc.refused("left " + variable, () -> Check.hill(variable, variable), Check.ARGUMENT, hill -> hill.rule(0, 1));
            doc.refused("left alone", () -> Check.hill(variable, "a"), Check.ARGUMENT, hill -> hill.rule(0, 1));
            doc.refused("right " + variable, () -> Check.hill("ba", variable), Check.ARGUMENT, hill -> hill.rule(0, 1));
            doc.is("both", Check.hill("b" + variable, variable).rule(0, 1), 0);
            doc.is("left deep within", Check.hill("cdbbb" + variable, "e" + variable).rule(0, 1), 0);
            doc.is("more often right", Check.hill("b" + variable, "c" + variable + variable).rule(0, 1), 0);
            doc.is("left only", Check.hill("b" + variable, "a").rule(0, 1), 0);
        }
        doc.refused("one of two", () -> Check.hill("cxx", "cxy"), Check.ARGUMENT, hill -> hill.rule(0, 1));
        doc.refused("the last one of three", () -> Check.hill("cxy", "cycxz"), Check.ARGUMENT, hill -> hill.rule(0, 1));
        doc.is("three of three", Check.hill("czcxy", "cycxz").rule(0, 1), 0);
        doc.is("no variables", Check.hill("a", "a").rule(0, 1), 0);
        doc.refused("a variable, ahead of five rules", EdgesOfTermsTest::full, Check.ARGUMENT, hill -> hill.rule(0, 0));
        doc.refused("one of its own, ahead of five", EdgesOfTermsTest::full, Check.ARGUMENT, hill -> hill.rule(1, 2));
    }

    private void fiveRules() {
        doc.section(1, "RULES, at most 5, numbered from 0");
        doc.promise(7, "`IllegalStateException` if there are 5");
        doc.refused(EdgesOfTermsTest::full, Check.STATE, hill -> hill.rule(1, 0));
        doc.refused("another one", EdgesOfTermsTest::full, Check.STATE, hill -> hill.rule(3, 3));
        Downhill again = full();
        again.unrule();
        doc.is("one less, then the fifth again", again.rule(2, 3), 4);
        doc.is("is the new one", again.side(4, true) + ">" + again.side(4, false), "ey>a");
        doc.promise(7, "A RULE comes.");
        doc.promise(7, "Returns its number.");
        Downhill hill = Check.hill("bx", "x");
        for (int number = 0; number < 5; number++) {
            doc.is(hill.rule(0, 1), number);
            doc.is("rules", hill.house(1), number + 1);
        }
    }

    private void unrule() {
        doc.promise(8, "`NoSuchElementException` if there is none");
        doc.refused(Downhill::new, Check.ELEMENT, Downhill::unrule);
        doc.refused("none is left", () -> {
            Downhill hill = Check.ruled("bx>x");
            hill.unrule();
            return hill;
        }, Check.ELEMENT, Downhill::unrule);
        doc.promise(8, "Returns how many are left.");
        Downhill hill = Check.ruled("bx>x", "bx>a", "bx>d", "bx>ex", "bx>ea");
        for (int left = 4; left >= 0; left--) {
            doc.is(hill.unrule(), left);
        }
        doc.is("undone", hill.undo(), 7);
        doc.is("the first one is back", hill.side(0, true) + hill.side(0, false), "bxx");
        doc.promise(8, "The last RULE goes.");
        for (String gone : new String[] {"bx>x", "bx>bx", "bx>ebx", "ex>bx", "a>ba", "d>a", "cxy>bx", "bbx>bx"}) {
            for (String[] rules : new String[][] {{}, {"bx>x"}, {"bx>ex"}, {"a>d", "bx>bbx"}, {"ex>bx", "cxy>cyx", "d>ea", "a>d"}}) {
                doc.is(gone + " behind " + rules.length, answers(gone, rules), answers("", rules));
            }
        }
    }

    /** What one asks of RULES, once another one came and went. */
    private static String answers(String gone, String... rules) {
        Downhill hill = Check.ruled(rules);
        if (!gone.isEmpty()) {
            Check.rule(hill, gone);
            hill.unrule();
        }
        Check.keep(hill, 5, "cebad");
        StringBuilder answers = new StringBuilder(hill.row()).append(' ').append(hill.stuck());
        for (int order = 0; order < 3; order++) {
            answers.append(' ').append(hill.down(order));
        }
        for (int nth = 0; nth < 12; nth++) {
            answers.append(' ').append(hill.pair(nth)).append(' ').append(hill.ring(nth)).append(' ').append(hill.ends(nth));
            answers.append(' ').append(hill.reduct(5, nth));
        }
        answers.append(' ').append(hill.longest(5)).append(' ').append(hill.bound(5));
        answers.append(' ').append(hill.loop(1)).append(' ').append(hill.loop(2));
        for (int sign = 0; sign < 5; sign++) {
            answers.append(' ').append(hill.ofSign(sign, 8));
        }
        return answers.toString();
    }

    // ---- promises 20 to 24

    private void term() {
        doc.promise(20, "`IndexOutOfBoundsException` if there is no such SLOT");
        doc.takes(Downhill::new, 0, 5, Check.INDEX, Downhill::term);
        doc.promise(20, "Returns its TERM; \"\" without one.");
        Downhill hill = Check.hill("x", "", "bbbbbbbbbbba");
        doc.is(hill.term(0) + "," + hill.term(1) + "," + hill.term(2) + "," + hill.term(5), "x,,bbbbbbbbbbba,");
    }

    private void part() {
        doc.promise(21, "`IndexOutOfBoundsException` if there is no such SLOT, or no such place in its TERM");
        Sentences.Maker six = () -> Check.hill("x", "x", "x", "x", "x", "x");
        doc.takes(six, 0, 5, Check.INDEX, (hill, slot) -> hill.part(slot, 0));
        doc.takes(six, 0, 0, Check.INDEX, (hill, place) -> hill.part(5, place));
        doc.takes(() -> Check.hill("bbbbbbbbbbba"), 0, 11, Check.INDEX, (hill, place) -> hill.part(0, place));
        doc.refused("no term", EdgesOfTermsTest::few, Check.INDEX, hill -> hill.part(4, 0));
        doc.refused("no slot and no place", EdgesOfTermsTest::few, Check.INDEX, hill -> hill.part(6, -1));
        doc.promise(21, "Returns the PART there.");
        doc.is("the last letter", few().part(0, 3), "y");
        doc.is("all of it", few().part(0, 0), "cxby");
        doc.is("up to the end", few().part(0, 2), "by");
    }

    private void typed() {
        doc.promise(22, "Returns TYPED.");
        doc.is("nothing", new Downhill().typed(), "");
        doc.is("all gone", typing("").typed(), "");
        doc.is("12", typing("zyxedcbaabcd").typed(), "zyxedcbaabcd");
    }

    private void side() {
        doc.promise(24, "`IndexOutOfBoundsException` if there is no such RULE");
        for (boolean isLeft : new boolean[] {true, false}) {
            doc.takes(EdgesOfTermsTest::full, 0, 4, Check.INDEX, (hill, rule) -> hill.side(rule, isLeft));
            doc.takes(() -> Check.ruled("bx>x"), 0, 0, Check.INDEX, (hill, rule) -> hill.side(rule, isLeft));
            for (int rule : new int[] {-1, 0, 1}) {
                doc.refused("no rule at all", Downhill::new, Check.INDEX, hill -> hill.side(rule, isLeft));
            }
        }
        doc.refused("the one that went", () -> {
            Downhill hill = Check.ruled("bx>x", "ex>x");
            hill.unrule();
            return hill;
        }, Check.INDEX, hill -> hill.side(1, true));
        doc.promise(24, "whether its left TERM, otherwise the right one");
        doc.is(Check.ruled("bx>x").side(0, true) + " " + Check.ruled("bx>x").side(0, false), "bx x");
        doc.promise(24, "Returns that.");
        Downhill hill = Check.ruled("bx>x", "cxcxcxcxcxby>cxcxcxcxcxby");
        doc.is("the shortest right one", hill.side(0, false), "x");
        doc.is("the longest ones", hill.side(1, true) + " " + hill.side(1, false), "cxcxcxcxcxby cxcxcxcxcxby");
    }
}
