import java.io.IOException;

/** The edges of steps back and of what is asked of all: sections 0 and 6, promises 18, 19 and 42 to 45, 512 calls. */
public final class EdgesOfAllTest {
    /** Each call of the section "what is told", with arguments that a {@link #full} hill takes. */
    private static final Sentences.Asked[] TOLD = {
        hill -> hill.arity(3, 2), hill -> hill.arity(3, 0), hill -> hill.say(9, 0, 1, 2, 8, -1),
        hill -> hill.say(-1, -1, -1, -1, -1, -1), hill -> hill.keep(5), hill -> hill.keep(0), hill -> hill.put(0, 5, 1, 3),
        hill -> hill.put(1, 7, 0, 1), hill -> hill.cut(0, 2, 4), hill -> hill.cut(0, 0, 0), hill -> hill.rule(0, 1),
        Downhill::unrule, hill -> hill.rank(2, 0), hill -> hill.rank(1, 1), hill -> hill.way(2, 1), hill -> hill.way(2, 0),
        hill -> hill.weight(5, 9), hill -> hill.weight(5, 1), hill -> hill.weight(1, 0), hill -> hill.sum(2, 9, 8, 7, 6),
        hill -> hill.sum(2, 1, 1, 1, 0), hill -> hill.base(3), hill -> hill.base(0), hill -> hill.number(0, 5),
        hill -> hill.number(5, 0), hill -> hill.power(3, 0), hill -> hill.power(0, 0), hill -> hill.make(2, 0, 0, 1),
        hill -> hill.make(0, 2, 0, 0), hill -> hill.make(1, 1, 1, 5), hill -> hill.fall(0, 2), hill -> hill.fall(1, 9)};

    /** Rows of calls that a {@link #full} hill takes one behind the other. */
    private static final Sentences.Asked[][] ROWS = {
        {Downhill::unrule, hill -> hill.rule(0, 2), Downhill::unrule, hill -> hill.rule(3, 3), hill -> hill.rule(2, 1),
            Downhill::unrule, Downhill::unrule, hill -> hill.rule(0, 0)},
        {hill -> hill.rule(0, 2), hill -> hill.rule(3, 3), Downhill::unrule, Downhill::unrule, Downhill::unrule,
            hill -> hill.rule(3, 3), hill -> hill.rule(0, 1), hill -> hill.rule(0, 0), Downhill::unrule},
        {hill -> hill.put(0, 5, 3, 1), hill -> hill.cut(0, 2, 0), hill -> hill.keep(2), hill -> hill.say(9, 5, -1, -1, -1, -1),
            hill -> hill.keep(0), hill -> hill.put(3, 5, 3, 3), hill -> hill.cut(1, 0, 5), hill -> hill.say(8, 7, 6, -1, -1, -1)},
        {hill -> hill.rank(0, 4), hill -> hill.rank(1, 0), hill -> hill.way(2, 1), hill -> hill.weight(5, 3),
            hill -> hill.sum(2, 9, 8, 7, 6), hill -> hill.base(2), hill -> hill.arity(3, 2), hill -> hill.way(2, 2)},
        {hill -> hill.number(0, 3), hill -> hill.power(1, 0), hill -> hill.power(0, 1), hill -> hill.make(2, 0, 0, 1),
            hill -> hill.make(0, 2, 2, 1), hill -> hill.fall(2, 3), hill -> hill.number(2, 0), hill -> hill.fall(0, 9)},
        {hill -> hill.sum(0, 1, 2, 3, 4), hill -> hill.sum(0, 4, 3, 2, 1), hill -> hill.rank(4, 0), hill -> hill.rank(4, 0),
            hill -> hill.weight(0, 9), hill -> hill.cut(0, 1, 0), Downhill::unrule, hill -> hill.number(5, 99),
            hill -> hill.power(5, 5), hill -> hill.base(1), hill -> hill.say(9, -1, -1, -1, -1, -1), hill -> hill.way(4, 2)}};

    /** Each call that tells nothing. */
    private static final Sentences.Asked[] ASKED = {
        Downhill::knock, hill -> hill.term(0), hill -> hill.part(0, 1), Downhill::typed, Downhill::fault,
        hill -> hill.side(0, true), hill -> hill.compare(0, 0, 1), hill -> hill.heaps(1, 7, 56), hill -> hill.down(2),
        hill -> hill.isGood(1), Downhill::row, Downhill::stuck, hill -> hill.differ(0, 1, 3), hill -> hill.pair(0),
        hill -> hill.ring(0), hill -> hill.ends(0), hill -> hill.reduct(0, 0), hill -> hill.longest(0), hill -> hill.bound(0),
        hill -> hill.loop(2), hill -> hill.tell(0), hill -> hill.hold(0, 1), hill -> hill.game(0, 3, 1),
        hill -> hill.ofSign(0, 8), hill -> hill.house(2), Downhill::isSound, Downhill::digest};

    /** Each call that a {@link #full} hill refuses. */
    private static final Sentences.Asked[] REFUSED = {
        hill -> hill.arity(5, 0), hill -> hill.arity(0, 3), hill -> hill.arity(1, 0), hill -> hill.say(0, 0, 0, 0, 0, 10),
        hill -> hill.say(0, 0, 0, 0, 0, 0), hill -> hill.keep(6), hill -> hill.put(6, 5, 0, 0), hill -> hill.put(0, 4, 0, 1),
        hill -> hill.put(0, 5, 4, 1), hill -> hill.put(2, 5, 2, 1), hill -> hill.cut(0, 4, 1), hill -> hill.cut(4, 0, 0),
        hill -> hill.rule(6, 0), hill -> hill.rule(0, 4), hill -> hill.rule(1, 0), hill -> hill.rank(0, 5), hill -> hill.way(0, 3),
        hill -> hill.weight(5, 0), hill -> hill.sum(0, 1, 2, 3, 10), hill -> hill.base(4), hill -> hill.number(0, 100),
        hill -> hill.power(6, 0), hill -> hill.make(0, 3, 1, 1), hill -> hill.fall(0, 10), hill -> hill.fall(5, 0),
        hill -> hill.term(6), hill -> hill.part(4, 0), hill -> hill.side(1, true), hill -> hill.compare(0, 0, 4),
        hill -> hill.heaps(0, 64, 0), hill -> hill.down(3), hill -> hill.isGood(3), hill -> hill.differ(0, 1, 4),
        hill -> hill.pair(-1), hill -> hill.ring(-1), hill -> hill.ends(-1), hill -> hill.reduct(4, 0), hill -> hill.longest(4),
        hill -> hill.bound(4), hill -> hill.loop(3), hill -> hill.tell(6), hill -> hill.hold(0, 6), hill -> hill.game(0, 0, 4),
        hill -> hill.ofSign(0, 9), hill -> hill.house(9)};

    private final Sentences doc = new Sentences();

    private EdgesOfAllTest() throws IOException {
    }

    public static void main(String[] args) throws IOException {
        EdgesOfAllTest test = new EdgesOfAllTest();
        test.words();
        test.refusedCalls();
        test.severalExceptions();
        test.stepsBack();
        test.eightSteps();
        test.undo();
        test.knock();
        test.ofSign();
        test.house();
        test.isSound();
        test.isSoundOfMuch();
        test.digest();
        test.calls();
        test.doc.end("edges of all", new int[] {0, 6}, new int[] {18, 19, 42, 43, 44, 45});
    }

    /** TERMS in the SLOTS 0 to 3, a RULE, a TERM TYPED, NUMBERS in the CELLS 0 and 1; none in 4 and 5. */
    private static Downhill full() {
        Downhill hill = Check.hill("cxby", "x", "ccxxcxcxx", "bea");
        hill.rule(0, 1);
        hill.number(0, 1);
        hill.power(0, 0);
        hill.number(1, 3);
        Check.type(hill, "ccabxcabx");
        return hill;
    }

    /** The same with just so many STEPS BACK. */
    private static Downhill full(int steps) {
        Downhill hill = full();
        for (int i = 0; i < 8; i++) {
            hill.base(i % 3);
        }
        hill.base(0);
        while (hill.house(7) > 0) {
            hill.undo();
        }
        for (int i = 0; i < steps; i++) {
            hill.base(i % 2);
        }
        return hill;
    }

    // ---- sections 0 and 6

    private void words() {
        doc.section(0, "Whole numbers; exact, as great as they are.");
        Downhill great = Check.hill("bbbbbbbbbbba");
        great.sum(1, 9, 9, 0, 0);
        great.sum(0, 9, 0, 0, 0);
        doc.is(great.bound(0), "317733228540");
        doc.section(0, "NONE is -1, MANY is -5.");
        doc.is(Check.hill("x").loop(1), -1);
        Downhill term = Check.ruled("bx>bx");
        doc.is(term.longest(4), -5);
        term.say(-1, -1, -1, -1, -1, -1);
        doc.is(term.fault(), -1);
        doc.section(0, "A set is the sum of 2^k for each number k.");
        for (int set = 0; set < 32; set++) {
            Downhill hill = new Downhill();
            for (int rule = 0; rule < 5; rule++) {
                Check.rule(hill, (set >> rule & 1) == 1 ? "bx>x" : "bx>bx");
            }
            doc.is("down " + set, hill.down(0), set);
        }
        doc.is("the greatest set of slots", Check.hill("x", "x", "x", "x", "x", "x").heaps(0, 63, 31), 1);
        doc.section(0, "Where one of several is taken and nothing else is said, it is that with the smallest number.");
        doc.is("of rules", Check.ruled("bx>x", "ex>ex", "a>a").loop(2), 1);
        doc.is("of sets", Check.ruled("bx>x", "ex>ex", "bx>bx").stuck(), 2);
    }

    private void refusedCalls() {
        doc.section(0, "A method that throws an exception changes nothing.");
        for (int steps : new int[] {0, 1, 7, 8}) {
            Downhill twin = full(steps);
            for (int i = 0; i < REFUSED.length; i++) {
                Downhill hill = full(steps);
                String got = Sentences.answer(hill, REFUSED[i]);
                doc.is("refused call " + i + " with " + steps + ", " + got, got.endsWith("Exception"), true);
                doc.is("what the call " + i + " leaves", Sentences.all(hill), Sentences.all(full(steps)));
                doc.is("and its steps back", wayBack(hill), wayBack(full(steps)));
            }
            doc.is("steps", twin.house(7), steps);
        }
    }

    private static String wayBack(Downhill hill) {
        StringBuilder way = new StringBuilder();
        while (hill.house(7) > 0) {
            way.append(hill.undo()).append(' ').append(hill.house(6)).append(' ').append(Sentences.some(hill)).append(';');
        }
        return way.toString();
    }

    private void severalExceptions() {
        doc.section(0, "If several exceptions apply, the one that is named first is thrown.");
        Sentences.Maker empty = Downhill::new;
        doc.refused(empty, Check.INDEX, hill -> hill.arity(5, 3));
        doc.refused(EdgesOfAllTest::full, Check.ARGUMENT, hill -> hill.arity(1, 3));
        doc.refused(() -> full(8), Check.ARGUMENT, hill -> hill.say(9, -2, 0, 0, 0, 10));
        doc.refused(empty, Check.INDEX, hill -> hill.put(0, 4, 0, 6));
        doc.refused(empty, Check.ARGUMENT, hill -> hill.put(0, 4, 0, 5));
        doc.refused(empty, Check.INDEX, hill -> hill.rule(0, 6));
        doc.refused(EdgesOfAllTest::full, Check.ELEMENT, hill -> hill.rule(1, 5));
        doc.refused(empty, Check.INDEX, hill -> hill.compare(3, 6, 0));
        doc.refused(empty, Check.ARGUMENT, hill -> hill.compare(3, 0, 0));
        doc.refused(empty, Check.INDEX, hill -> hill.reduct(6, -1));
        doc.refused(empty, Check.ARGUMENT, hill -> hill.reduct(5, -1));
        doc.refused(empty, Check.INDEX, hill -> hill.fall(6, 10));
        doc.refused(empty, Check.ARGUMENT, hill -> hill.fall(0, 10));
        doc.refused(empty, Check.INDEX, hill -> hill.make(0, 3, 6, 0));
        doc.refused(empty, Check.INDEX, hill -> hill.game(6, 10, 4));
        doc.refused(empty, Check.INDEX, hill -> hill.ofSign(5, 9));
    }

    private void stepsBack() {
        doc.section(6, "each call of the section «what is told» that throws nothing, and does not tell a number below -1, adds one");
        for (int i = 0; i < TOLD.length; i++) {
            for (int steps = 0; steps <= 8; steps++) {
                Downhill hill = full(steps);
                String got = Sentences.answer(hill, TOLD[i]);
                doc.is("call " + i + " is taken, " + got, got.contains("Exception"), false);
                doc.is("call " + i + " adds one to " + steps, hill.house(7), Math.min(steps + 1, 8));
                doc.is("call " + i + " undone", hill.undo(), Math.min(steps, 7));
                if (steps < 8) {
                    doc.is("all is as ahead of call " + i, Sentences.all(hill), Sentences.all(full(steps)));
                } else {
                    doc.is("what is told is as ahead of call " + i, Sentences.told(hill), Sentences.told(full(8)));
                }
            }
        }
        for (int i = 0; i < ASKED.length; i++) {
            for (int steps : new int[] {0, 7, 8}) {
                Downhill hill = full(steps);
                ASKED[i].of(hill);
                doc.is("asked " + i + " adds none to " + steps, hill.house(7), steps);
                doc.is("asked " + i + " leaves", wayBack(hill), wayBack(full(steps)));
            }
        }
        for (int steps = 0; steps <= 7; steps++) {
            Downhill hill = full(steps);
            hill.say(9, -1, -1, -1, -1, -1);
            doc.is("-2", hill.keep(0), -2);
            doc.is("which adds none to " + steps, hill.house(7), steps + 1);
        }
    }

    private void eightSteps() {
        doc.section(6, "(with 8 the oldest one goes), to undo takes the last one: all is as ahead of that call (but who knocked).");
        for (int calls = 1; calls <= 20; calls++) {
            Downhill hill = new Downhill();
            for (int i = 1; i <= calls; i++) {
                hill.number(0, i);
                hill.knock();
            }
            int steps = Math.min(calls, 8);
            for (int left = steps - 1; left >= 0; left--) {
                doc.is(calls + " calls, left", hill.undo(), left);
                doc.is(calls + " calls, as it was", hill.tell(0), "" + (calls - steps + left));
            }
            doc.is("who knocked", hill.house(8), calls);
            doc.is("none is left", Sentences.answer(hill, Downhill::undo), Check.ELEMENT.getName());
        }
        someUndoneInBetween();
        rowsOfCalls();
    }

    /** Each row is undone call by call: what a call wrote over that another one had taken away comes back, too. */
    private void rowsOfCalls() {
        doc.section(6, "all is as ahead of that call");
        for (Sentences.Asked[] row : ROWS) {
            for (int back = 1; back <= Math.min(row.length, 8); back++) {
                Downhill hill = after(row, row.length);
                for (int i = 0; i < back; i++) {
                    hill.undo();
                }
                doc.is(back + " undone", Sentences.told(hill), Sentences.told(after(row, row.length - back)));
            }
        }
    }

    private static Downhill after(Sentences.Asked[] row, int calls) {
        Downhill hill = full();
        for (int i = 0; i < calls; i++) {
            row[i].of(hill);
        }
        return hill;
    }

    private void someUndoneInBetween() {
        Downhill hill = new Downhill();
        for (int i = 1; i <= 9; i++) {
            hill.number(0, i);
        }
        for (int i = 0; i < 3; i++) {
            hill.undo();
        }
        for (int i = 10; i <= 12; i++) {
            hill.number(0, i);
        }
        String[] due = {"11", "10", "6", "5", "4", "3", "2", "1"};
        for (int left = 7; left >= 0; left--) {
            doc.is("some undone in between, left", hill.undo(), left);
            doc.is("some undone in between", hill.tell(0), due[7 - left]);
        }
    }

    // ---- promises 18 and 19

    private void undo() {
        doc.promise(18, "`NoSuchElementException` if there is none");
        doc.refused(Downhill::new, Check.ELEMENT, Downhill::undo);
        doc.refused("all are taken", () -> full(0), Check.ELEMENT, Downhill::undo);
        doc.refused("a fault adds none", () -> {
            Downhill hill = new Downhill();
            hill.keep(0);
            return hill;
        }, Check.ELEMENT, Downhill::undo);
        doc.promise(18, "Takes a STEP BACK.");
        doc.promise(18, "Returns how many are left.");
        for (int steps = 1; steps <= 8; steps++) {
            doc.is("of " + steps, full(steps).undo(), steps - 1);
        }
        eachRuleBack();
        eachOneBack();
    }

    /** RULES that went and were replaced come back one by one, whichever they are. */
    private void eachRuleBack() {
        doc.section(6, "to undo takes the last one: all is as ahead of that call (but who knocked).");
        String[] rules = {"bx>x", "cxy>cyx", "ebbx>ebx", "cbxa>bd", "bbbx>ebex"};
        for (int first = 0; first < rules.length; first++) {
            Downhill hill = Check.ruled(rules);
            Check.keep(hill, 0, "ccaxbx");
            String before = Sentences.told(hill);
            for (int rule = 4; rule >= first; rule--) {
                hill.unrule();
            }
            hill.rule(0, 0);
            for (int steps = 6 - first; steps > 0; steps--) {
                hill.undo();
            }
            doc.is("from the rule " + first + " on", Sentences.told(hill), before);
        }
    }

    /** Each SLOT, CELL and SIGN, told twice and then undone twice. */
    private void eachOneBack() {
        for (int i = 0; i < 6; i++) {
            int one = i;
            Sentences.Asked[][] calls = {
                {hill -> hill.cut(one, 0, one), hill -> hill.cut(one, 2, one)},
                {hill -> hill.keep(one), hill -> hill.put(one, 5, 1, one)},
                {hill -> hill.number(one, 7), hill -> hill.make(one, 2, one, one)},
                {hill -> hill.power(one, one), hill -> hill.fall(one, 2)},
                {hill -> hill.weight(one, 8), hill -> hill.weight(one, 3)},
                {hill -> hill.way(one % 5, 1), hill -> hill.way(one % 5, 2)},
                {hill -> hill.sum(one % 5, 4, 5, 6, 7), hill -> hill.sum(one % 5, 9, 8, 2, 3)},
                {hill -> hill.rank(one % 5, 4), hill -> hill.rank(one % 5, 0)},
                {hill -> hill.rank(4 - one % 5, one % 4), hill -> hill.rank(one % 5, one % 3)}};
            for (int row = 0; row < calls.length; row++) {
                backAndForth(row + " of " + one, calls[row]);
            }
        }
        for (int i = 0; i < 5; i++) {
            int sign = i;
            Downhill hill = new Downhill();
            String before = Sentences.told(hill);
            hill.arity(sign, 2);
            String between = Sentences.told(hill);
            hill.arity(sign, (sign + 1) % 2);
            hill.undo();
            doc.is("the arity of " + sign, Sentences.told(hill), between);
            hill.undo();
            doc.is("the first arity of " + sign, Sentences.told(hill), before);
        }
    }

    private void backAndForth(String what, Sentences.Asked[] calls) {
        Downhill hill = Check.hill("cbxa", "ebx", "cxa", "eba", "cabx", "bex");
        for (int cell = 0; cell < 6; cell++) {
            hill.number(cell, cell + 2);
        }
        Check.type(hill, "cebxa");
        String before = Sentences.told(hill);
        calls[0].of(hill);
        String between = Sentences.told(hill);
        calls[1].of(hill);
        hill.undo();
        doc.is(what + ", the second one undone", Sentences.told(hill), between);
        hill.undo();
        doc.is(what + ", both undone", Sentences.told(hill), before);
    }

    private void knock() {
        doc.promise(19, "Returns how often one knocked, with this.");
        Downhill hill = new Downhill();
        for (int often = 1; often <= 300; often++) {
            doc.is(hill.knock(), often);
        }
        hill.base(1);
        hill.undo();
        doc.is("undone all the same", hill.knock(), 301);
        doc.is("another one", new Downhill().knock(), 1);
    }

    // ---- promises 42 to 45

    private void ofSign() {
        doc.promise(42, "`IndexOutOfBoundsException` if there is no such SIGN");
        for (int what = 0; what <= 8; what++) {
            int asked = what;
            doc.takes(Downhill::new, 0, 4, Check.INDEX, (hill, sign) -> hill.ofSign(sign, asked));
        }
        doc.refused("ahead of what", Downhill::new, Check.INDEX, hill -> hill.ofSign(5, 9));
        doc.refused("below, ahead of what", Downhill::new, Check.INDEX, hill -> hill.ofSign(-1, -1));
        doc.promise(42, "`IllegalArgumentException` if what is not 0 to 8");
        for (int sign = 0; sign < 5; sign++) {
            int asked = sign;
            doc.takes(Downhill::new, 0, 8, Check.ARGUMENT, (hill, what) -> hill.ofSign(asked, what));
        }
        doc.promise(42, "0 ARITY, 1 its place in the ROW, 2 WAY, 3 WEIGHT, 4 to 7 k, p, q, r, 8 1 if it is DEFINED, otherwise 0");
        doc.promise(42, "Returns that.");
        for (int sign = 0; sign < 5; sign++) {
            Downhill hill = new Downhill();
            hill.arity(sign, 1);
            hill.rank(sign, 3);
            hill.way(sign, 2);
            hill.weight(sign, 9);
            hill.sum(sign, 5, 6, 7, 8);
            Check.rule(hill, "abcde".charAt(sign) + "x>x");
            int[] due = {1, 3, 2, 9, 5, 6, 7, 8, 1};
            for (int what = 0; what <= 8; what++) {
                doc.is(sign + " " + what, hill.ofSign(sign, what), due[what]);
            }
            doc.is("another one is not", hill.ofSign((sign + 1) % 5, 8), 0);
        }
    }

    private void house() {
        doc.promise(43, "`IllegalArgumentException` if what is not 0 to 8");
        doc.takes(Downhill::new, 0, 8, Check.ARGUMENT, Downhill::house);
        doc.takes(EdgesOfAllTest::full, 0, 8, Check.ARGUMENT, Downhill::house);
        doc.promise(43, "0 SLOTS that have a TERM, 1 RULES, 2 PAIRS, 3 RINGS, 4 how long TYPED is, 5 WEIGHT of VARIABLES, 6 BASE, "
                + "7 STEPS BACK, 8 how often one knocked");
        doc.promise(43, "Returns that.");
        int[] first = {0, 0, 0, 0, 0, 1, 0, 0, 0};
        Downhill most = Check.hill("x", "x", "x", "x", "x", "x");
        for (int i = 0; i < 4; i++) {
            Check.rule(most, "bx>bbbbbbbbbbba");
        }
        Check.rule(most, "a>bbbbbbbbbbba");
        most.weight(5, 9);
        most.base(3);
        most.knock();
        int[] last = {6, 5, 60, 1, 12, 9, 3, 8, 1};
        for (int what = 0; what <= 8; what++) {
            doc.is("first " + what, new Downhill().house(what), first[what]);
            doc.is("last " + what, most.house(what), last[what]);
        }
        Downhill rings = new Downhill();
        for (int sign = 0; sign < 5; sign++) {
            rings.arity(sign, 1);
            Check.rule(rings, "abcde".charAt(sign) + "x>" + "abcde".charAt(sign) + "x");
        }
        doc.is("5 rings", rings.house(3), 5);
        for (int slots = 0; slots <= 6; slots++) {
            doc.is(slots + " slots", Check.hill("x".repeat(slots).split("")).house(0), slots);
        }
    }

    private void isSound() {
        doc.promise(44, "by each GOOD ORDER no TERM of a SLOT is GREATER than itself");
        doc.is("no term", new Downhill().isSound(), true);
        doc.is("some terms", full().isSound(), true);
        doc.promise(44, "LONGEST of each SLOT that has a BOUND, if it is not MANY, is not above it");
        Downhill just = Check.ruled("bx>x");
        just.sum(0, 0, 0, 0, 0);
        Check.keep(just, 3, "bbba");
        doc.is("just as much", just.longest(3) + " " + just.bound(3) + " " + just.isSound(), "3 3 true");
        Downhill many = Check.ruled("bx>x", "d>a");
        many.sum(3, 2, 0, 0, 0);
        Check.keep(many, 0, "cbbdcbbdbbbd");
        doc.is("MANY", many.longest(0) + " " + many.bound(0).equals("-") + " " + many.isSound(), "-5 false true");
        Downhill none = Check.ruled("bx>x", "bx>bx");
        doc.is("no bound", none.bound(4) + " " + none.longest(4) + " " + none.isSound(), "- -5 true");
        Downhill nothing = Check.ruled("bx>x");
        Check.keep(nothing, 0, "x");
        doc.is("0", nothing.longest(0) + " " + nothing.bound(0) + " " + nothing.isSound(), "0 0 true");
        doc.promise(44, "if a RULE LOOPS in 1, by no ORDER all RULES go down");
        doc.is("it loops", Check.ruled("bx>bx").isSound(), true);
        doc.is("it loops, the others go down", Check.ruled("bx>x", "bx>x", "bx>bx").isSound(), true);
        doc.is("all go down", Check.ruled("bx>x", "cxy>x").isSound(), true);
        doc.is("it loops in 2", Check.ruled("a>d", "d>a").isSound(), true);
    }

    private void isSoundOfMuch() {
        doc.promise(44, "if not, by some ROW all RULES of stuck() but one go down, whichever that one is");
        doc.is("one alone", Check.ruled("bx>bx", "bx>x").isSound(), true);
        doc.is("two", Check.ruled("a>d", "d>a", "a>a").isSound(), true);
        doc.is("five", Check.ruled("d>a", "bx>ex", "ex>cxx", "cxy>bx", "bx>x").isSound(), true);
        doc.promise(44, "if row() is one, the WAYS being as they are, all RULES go down by it");
        for (int way = 0; way < 3; way++) {
            Downhill hill = Check.ruled("ccxyz>cxcyz", "ebx>bex");
            hill.rank(4, 0);
            hill.way(2, way);
            doc.is("way " + way, hill.isSound(), true);
        }
        doc.promise(44, "each NUMBER of a CELL that is not 0 is greater than what it FALLS to by 2 (whatever its SPAN)");
        Downhill hill = new Downhill();
        for (int cell = 0; cell < 6; cell++) {
            hill.number(cell, cell);
            doc.is(hill.isSound(), true);
        }
        for (int span = 2; span <= 40; span++) {
            hill.power(2, 2);
        }
        hill.make(3, 0, 2, 2);
        doc.is("it would have 80", Sentences.answer(hill, it -> it.fall(3, 2)) + hill.isSound(),
                Check.STATE.getName() + "true");
        doc.promise(44, "Returns whether all of this is so");
        Downhill six = Check.hill("bbx", "bx", "x", "cxbx", "cxy", "cyx");
        for (int way = 0; way < 3; way++) {
            six.way(2, way);
            doc.is("six terms", six.isSound(), true);
        }
        six.weight(0, 0);
        six.base(3);
        doc.is("of no good order", six.isSound(), true);
    }

    private void digest() {
        doc.promise(45, "Computes a checksum. A number d starts with 6163; then d becomes d * 31 + v, which wraps around as a 64-bit "
                + "integer");
        doc.promise(45, "Returns d.");
        doc.is("new", new Downhill().digest(), Check.digestOf(new Downhill()));
        for (int steps = 0; steps <= 8; steps++) {
            doc.is("full " + steps, full(steps).digest(), Check.digestOf(full(steps)));
        }
        doc.promise(45, "compare() of 0 and 1 (only if both SLOTS have TERMS)");
        for (String[] terms : new String[][] {{"x"}, {"", "x"}, {"bx", "x"}, {"x", "bx"}, {"", "", "x"}}) {
            doc.is("terms", Check.hill(terms).digest(), Check.digestOf(Check.hill(terms)));
        }
        doc.promise(45, "PAIR by PAIR the length of pair(); RING by RING the length of ring(), 1 if ends(), otherwise 0; SLOT by SLOT "
                + "that has a TERM longest(), the length of bound()");
        String[][] rules = {{"bx>x"}, {"bx>bx"}, {"bbx>bx", "ex>ex"}, {"cbxby>cxcbxy"}, {"bx>ex", "ex>x"}, {"a>a", "d>d"},
            {"a>d", "d>a"}};
        for (String[] told : rules) {
            doc.is("rules", Check.ruled(told).digest(), Check.digestOf(Check.ruled(told)));
        }
    }

    /** An object is used for at most 512 calls: the last one of them is answered as any other one is. */
    private void calls() {
        doc.section(6, "The constructor and the methods follow, a promise each");
        int methods = 0;
        for (java.lang.reflect.Method method : Downhill.class.getDeclaredMethods()) {
            methods += java.lang.reflect.Modifier.isPublic(method.getModifiers()) ? 1 : 0;
        }
        doc.is(methods + Downhill.class.getConstructors().length, 45);
        Downhill hill = new Downhill();
        Downhill door = new Downhill();
        Downhill quiet = new Downhill();
        for (int call = 1; call <= 511; call++) {
            door.knock();
            hill.number(0, call % 100);
            quiet.tell(call % 6);
        }
        doc.is("the call 512", door.knock(), 512);
        doc.is("another call 512", hill.undo(), 7);
        doc.is("one more call 512", quiet.digest(), new Downhill().digest());
    }
}
