/** Promises 1 to 19: a new object, what is told, steps back. */
public final class PromisesToldTest {
    private static final Check CHECK = new Check();

    public static void main(String[] args) {
        newObject();
        arity();
        say();
        keep();
        put();
        cut();
        rule();
        unrule();
        rank();
        way();
        weight();
        sum();
        base();
        number();
        power();
        makeSum();
        makeJoined();
        makeProduct();
        makeRefused();
        makeSpan();
        fall();
        fallRefused();
        undo();
        stepsBack();
        knock();
        CHECK.end("promises 1 to 19");
    }

    private static void newObject() {
        Downhill hill = new Downhill();
        int[][] signs = {{0, 0}, {1, 1}, {2, 2}, {0, 3}, {1, 4}};
        for (int sign = 0; sign < 5; sign++) {
            int[] due = {signs[sign][0], signs[sign][1], 0, 1, 1, 1, 1, 0, 0};
            for (int what = 0; what <= 8; what++) {
                CHECK.is("1 ofSign " + sign + " " + what, hill.ofSign(sign, what), due[what]);
            }
        }
        int[] house = {0, 0, 0, 0, 0, 1, 0, 0, 0};
        for (int what = 0; what <= 8; what++) {
            CHECK.is("1 house " + what, hill.house(what), house[what]);
        }
        for (int i = 0; i < 6; i++) {
            CHECK.is("1 term " + i, hill.term(i), "");
            CHECK.is("1 tell " + i, hill.tell(i), "0");
        }
        for (int order = 0; order < 3; order++) {
            CHECK.is("1 isGood " + order, hill.isGood(order), true);
            CHECK.is("1 down " + order, hill.down(order), 0);
            CHECK.is("1 heaps " + order, hill.heaps(order, 63, 63), 0);
        }
        CHECK.is("1 typed", hill.typed(), "");
        CHECK.is("1 fault", hill.fault(), 0);
        CHECK.is("1 row", hill.row(), "abcde");
        CHECK.is("1 stuck", hill.stuck(), 0);
        CHECK.is("1 pair", hill.pair(0), "");
        CHECK.is("1 ring", hill.ring(0), "");
        CHECK.is("1 ends", hill.ends(0), true);
        CHECK.is("1 loop", hill.loop(2), -1);
        CHECK.is("1 isSound", hill.isSound(), true);
        CHECK.refused("1 undo", hill, Check.ELEMENT, hill::undo);
    }

    private static void arity() {
        Downhill hill = new Downhill();
        CHECK.is("2 before", hill.arity(1, 2), 1);
        CHECK.is("2 again", hill.arity(1, 2), 2);
        CHECK.is("2 told", hill.ofSign(1, 0), 2);
        CHECK.is("2 a step back each", hill.house(7), 2);
        CHECK.refused("2 no sign", hill, Check.INDEX, () -> hill.arity(5, 3));
        CHECK.refused("2 below", hill, Check.INDEX, () -> hill.arity(-1, 0));
        CHECK.refused("2 no arity", hill, Check.ARGUMENT, () -> hill.arity(0, 3));
        CHECK.refused("2 below 0", hill, Check.ARGUMENT, () -> hill.arity(0, -1));
        Check.type(hill, "baa");
        CHECK.is("2 typed alone does not matter", hill.arity(1, 1), 2);
        CHECK.is("2 but the fault does", hill.fault(), 2);
        Check.keep(hill, 2, "ba");
        CHECK.refused("2 in a slot", hill, Check.STATE, () -> hill.arity(1, 0));
        CHECK.refused("2 the same, in a slot", hill, Check.STATE, () -> hill.arity(0, 0));
        CHECK.refused("2 no arity, in a slot", hill, Check.ARGUMENT, () -> hill.arity(1, 3));
        Downhill ruled = Check.ruled("bx>ea");
        Check.keep(ruled, 4, "x");
        Check.keep(ruled, 5, "x");
        CHECK.refused("2 in a left term", ruled, Check.STATE, () -> ruled.arity(1, 0));
        CHECK.refused("2 in a right term", ruled, Check.STATE, () -> ruled.arity(4, 0));
        CHECK.is("2 in none", ruled.arity(2, 0), 2);
        ruled.unrule();
        CHECK.is("2 the rule is gone", ruled.arity(4, 0), 1);
    }

    private static void say() {
        Downhill hill = new Downhill();
        CHECK.is("3 letters", hill.say(0, 1, 2, 3, 4, 5), 6);
        CHECK.is("3 behind", hill.say(6, 7, -1, -1, -1, -1), 8);
        CHECK.is("3 typed", hill.typed(), "abcdexyz");
        CHECK.is("3 the last goes", hill.say(8, 8, 0, -1, 8, 8), 5);
        CHECK.is("3 typed then", hill.typed(), "abcde");
        CHECK.is("3 nothing", hill.say(-1, -1, -1, -1, -1, -1), 5);
        CHECK.is("3 which is a step back", hill.house(7), 4);
        CHECK.is("3 all go", hill.say(0, 9, 8, 1, -1, -1), 1);
        CHECK.is("3 typed b", hill.typed(), "b");
        CHECK.is("3 none is there", hill.say(8, 8, 8, -1, -1, -1), 0);
        hill.say(0, 0, 0, 0, 0, 0);
        CHECK.is("3 twelve", hill.say(0, 0, 0, 0, 0, 0), 12);
        CHECK.is("3 one goes first", hill.say(8, 1, -1, -1, -1, -1), 12);
        CHECK.refused("3 at some moment", hill, Check.STATE, () -> hill.say(0, 8, -1, -1, -1, -1));
        CHECK.refused("3 all go behind", hill, Check.STATE, () -> hill.say(8, 0, 0, 9, -1, -1));
        CHECK.refused("3 no letter", hill, Check.ARGUMENT, () -> hill.say(0, 0, 0, 0, 0, 10));
        CHECK.refused("3 below", hill, Check.ARGUMENT, () -> hill.say(-2, 9, 0, 0, 0, 0));
        CHECK.is("3 typed stays", hill.typed(), "aaaaaaaaaaab");
    }

    private static void keep() {
        Downhill hill = new Downhill();
        CHECK.is("4 nothing", hill.keep(0), -2);
        CHECK.is("4 that is no step back", hill.house(7), 0);
        hill.say(2, 0, 1, -1, -1, -1);
        CHECK.is("4 too early", hill.keep(0), -5);
        hill.say(9, 0, 1, 5, -1, -1);
        CHECK.is("4 behind", hill.keep(0), -3);
        CHECK.is("4 nor is that", hill.house(7), 2);
        CHECK.is("4 no term", hill.term(0), "");
        hill.say(9, 2, 0, 1, 5, -1);
        CHECK.is("4 size", hill.keep(5), 4);
        CHECK.is("4 a step back", hill.house(7), 4);
        CHECK.is("4 term", hill.term(5), "cabx");
        CHECK.is("4 typed stays", hill.typed(), "cabx");
        hill.say(8, -1, -1, -1, -1, -1);
        CHECK.is("4 again too early", hill.keep(5), -5);
        CHECK.is("4 the slot stays", hill.term(5), "cabx");
        CHECK.refused("4 no slot, ahead of the fault", hill, Check.INDEX, () -> hill.keep(6));
        CHECK.refused("4 below", hill, Check.INDEX, () -> hill.keep(-1));
        hill.say(9, 5, -1, -1, -1, -1);
        CHECK.is("4 a variable is a term", hill.keep(0), 1);
    }

    private static void put() {
        Downhill hill = Check.hill("cxcxy", "by", "", "a", "bbbbcxx");
        CHECK.is("5 size", hill.put(0, 5, 1, 2), 7);
        CHECK.is("5 all at once", hill.term(2), "cbycbyy");
        CHECK.is("5 the others stay", hill.term(0), "cxcxy");
        CHECK.is("5 where it is", hill.put(0, 6, 3, 0), 5);
        CHECK.is("5 term", hill.term(0), "cxcxa");
        CHECK.is("5 without the variable", hill.put(3, 7, 1, 0), 1);
        CHECK.is("5 the same", hill.term(0), "a");
        Check.keep(hill, 0, "ccxxcxx");
        Check.keep(hill, 1, "cxy");
        CHECK.is("5 by itself", hill.put(1, 5, 1, 1), 5);
        CHECK.is("5 once, not in what is put in", hill.term(1), "ccxyy");
        Check.keep(hill, 1, "bbbx");
        Check.keep(hill, 0, "bbbbcxx");
        CHECK.refused("5 above 12", hill, Check.STATE, () -> hill.put(0, 5, 1, 2));
        Check.keep(hill, 0, "bbbcxx");
        CHECK.is("5 just 12", hill.put(0, 5, 1, 2), 12);
        Downhill none = Check.hill("x", "", "bx");
        CHECK.refused("5 no slot", none, Check.INDEX, () -> none.put(6, 4, 1, 0));
        CHECK.refused("5 no slot by", none, Check.INDEX, () -> none.put(0, 4, -1, 0));
        CHECK.refused("5 no slot to", none, Check.INDEX, () -> none.put(0, 4, 0, 6));
        CHECK.refused("5 no variable", none, Check.ARGUMENT, () -> none.put(1, 4, 0, 0));
        CHECK.refused("5 no letter", none, Check.ARGUMENT, () -> none.put(0, 8, 0, 0));
        CHECK.refused("5 no term", none, Check.ELEMENT, () -> none.put(1, 5, 0, 0));
        CHECK.refused("5 no term by", none, Check.ELEMENT, () -> none.put(0, 6, 1, 0));
    }

    private static void cut() {
        Downhill hill = Check.hill("ccaxby");
        CHECK.is("6 size", hill.cut(0, 1, 1), 3);
        CHECK.is("6 part", hill.term(1), "cax");
        CHECK.is("6 the last one", hill.cut(0, 5, 2), 1);
        CHECK.is("6 its part", hill.term(2), "y");
        CHECK.is("6 all of it", hill.cut(0, 0, 3), 6);
        CHECK.is("6 the same", hill.term(3), "ccaxby");
        CHECK.is("6 where it is", hill.cut(0, 4, 0), 2);
        CHECK.is("6 is by", hill.term(0), "by");
        CHECK.is("6 its own last", hill.cut(0, 1, 0), 1);
        CHECK.refused("6 no place", hill, Check.INDEX, () -> hill.cut(0, 1, 1));
        CHECK.refused("6 below", hill, Check.INDEX, () -> hill.cut(0, -1, 1));
        CHECK.refused("6 no slot", hill, Check.INDEX, () -> hill.cut(6, 0, 1));
        CHECK.refused("6 no slot to", hill, Check.INDEX, () -> hill.cut(0, 0, 6));
        CHECK.refused("6 in none there is none", hill, Check.INDEX, () -> hill.cut(5, 0, 0));
    }

    private static void rule() {
        Downhill hill = Check.hill("cxby", "cyx", "x", "a", "ez");
        CHECK.is("7 first", hill.rule(0, 1), 0);
        CHECK.is("7 the same once more", hill.rule(0, 1), 1);
        CHECK.is("7 sides", hill.side(0, true) + ">" + hill.side(1, false), "cxby>cyx");
        CHECK.is("7 to a variable", hill.rule(0, 2), 2);
        CHECK.is("7 from a closed term", hill.rule(3, 3), 3);
        CHECK.refused("7 a variable", hill, Check.ARGUMENT, () -> hill.rule(2, 2));
        CHECK.refused("7 a variable of its own", hill, Check.ARGUMENT, () -> hill.rule(0, 4));
        CHECK.refused("7 none of these", hill, Check.ARGUMENT, () -> hill.rule(3, 2));
        CHECK.refused("7 no left one", hill, Check.ELEMENT, () -> hill.rule(5, 0));
        CHECK.refused("7 no right one", hill, Check.ELEMENT, () -> hill.rule(2, 5));
        CHECK.refused("7 no slot", hill, Check.INDEX, () -> hill.rule(6, 5));
        CHECK.refused("7 no slot right", hill, Check.INDEX, () -> hill.rule(5, -1));
        CHECK.is("7 the fifth", hill.rule(4, 4), 4);
        CHECK.refused("7 there are 5", hill, Check.STATE, () -> hill.rule(0, 0));
        CHECK.refused("7 there are 5, and a variable", hill, Check.ARGUMENT, () -> hill.rule(2, 2));
        Check.keep(hill, 0, "a");
        CHECK.is("7 the rule keeps its own", hill.side(0, true), "cxby");
    }

    private static void unrule() {
        Downhill hill = Check.ruled("bx>x", "ex>x");
        CHECK.is("8 one left", hill.unrule(), 1);
        CHECK.is("8 the last went", hill.side(0, true), "bx");
        CHECK.is("8 none left", hill.unrule(), 0);
        CHECK.is("8 house", hill.house(1), 0);
        CHECK.refused("8 none", hill, Check.ELEMENT, hill::unrule);
    }

    private static String places(Downhill hill) {
        StringBuilder places = new StringBuilder();
        for (int sign = 0; sign < 5; sign++) {
            places.append(hill.ofSign(sign, 1));
        }
        return places.toString();
    }

    private static void rank() {
        Downhill hill = new Downhill();
        CHECK.is("9 up", hill.rank(1, 3), 1);
        CHECK.is("9 acdbe", places(hill), "03124");
        CHECK.is("9 down", hill.rank(4, 0), 4);
        CHECK.is("9 eacdb", places(hill), "14230");
        CHECK.is("9 to its own", hill.rank(2, 2), 2);
        CHECK.is("9 as it was", places(hill), "14230");
        CHECK.is("9 to the top", hill.rank(4, 4), 0);
        CHECK.is("9 acdbe again", places(hill), "03124");
        CHECK.refused("9 no sign", hill, Check.INDEX, () -> hill.rank(5, 0));
        CHECK.refused("9 no place", hill, Check.INDEX, () -> hill.rank(0, 5));
        CHECK.refused("9 below", hill, Check.INDEX, () -> hill.rank(0, -1));
    }

    private static void way() {
        Downhill hill = new Downhill();
        CHECK.is("10 before", hill.way(2, 1), 0);
        CHECK.is("10 then", hill.way(2, 2), 1);
        CHECK.is("10 told", hill.ofSign(2, 2), 2);
        CHECK.is("10 the others", hill.ofSign(1, 2), 0);
        CHECK.refused("10 no sign", hill, Check.INDEX, () -> hill.way(5, 3));
        CHECK.refused("10 no way", hill, Check.ARGUMENT, () -> hill.way(0, 3));
        CHECK.refused("10 below", hill, Check.ARGUMENT, () -> hill.way(0, -1));
    }

    private static void weight() {
        Downhill hill = new Downhill();
        CHECK.is("11 before", hill.weight(2, 0), 1);
        CHECK.is("11 then", hill.weight(2, 9), 0);
        CHECK.is("11 told", hill.ofSign(2, 3), 9);
        CHECK.is("11 variables", hill.weight(5, 4), 1);
        CHECK.is("11 theirs", hill.house(5), 4);
        CHECK.refused("11 no sign", hill, Check.INDEX, () -> hill.weight(6, 10));
        CHECK.refused("11 below", hill, Check.INDEX, () -> hill.weight(-1, 0));
        CHECK.refused("11 too much", hill, Check.ARGUMENT, () -> hill.weight(0, 10));
        CHECK.refused("11 too little", hill, Check.ARGUMENT, () -> hill.weight(0, -1));
        CHECK.refused("11 none for variables", hill, Check.ARGUMENT, () -> hill.weight(5, 0));
    }

    private static void sum() {
        Downhill hill = new Downhill();
        CHECK.is("12 before", hill.sum(3, 2, 3, 4, 5), 1);
        CHECK.is("12 then", hill.sum(3, 0, 9, 8, 7), 2);
        CHECK.is("12 told", "" + hill.ofSign(3, 4) + hill.ofSign(3, 5) + hill.ofSign(3, 6) + hill.ofSign(3, 7), "0987");
        CHECK.is("12 the others", "" + hill.ofSign(2, 4) + hill.ofSign(2, 7) + hill.ofSign(4, 4), "101");
        CHECK.refused("12 no sign", hill, Check.INDEX, () -> hill.sum(5, 10, 0, 0, 0));
        CHECK.refused("12 k", hill, Check.ARGUMENT, () -> hill.sum(0, 10, 0, 0, 0));
        CHECK.refused("12 p", hill, Check.ARGUMENT, () -> hill.sum(0, 0, -1, 0, 0));
        CHECK.refused("12 q", hill, Check.ARGUMENT, () -> hill.sum(0, 0, 0, 10, 0));
        CHECK.refused("12 r", hill, Check.ARGUMENT, () -> hill.sum(0, 0, 0, 0, -1));
    }

    private static void base() {
        Downhill hill = new Downhill();
        CHECK.is("13 before", hill.base(3), 0);
        CHECK.is("13 then", hill.base(0), 3);
        CHECK.is("13 told", hill.house(6), 0);
        CHECK.refused("13 too much", hill, Check.ARGUMENT, () -> hill.base(4));
        CHECK.refused("13 below", hill, Check.ARGUMENT, () -> hill.base(-1));
    }

    private static void number() {
        Downhill hill = new Downhill();
        CHECK.is("14 0 already", hill.number(0, 0), 0);
        CHECK.is("14 which is a step back", hill.house(7), 1);
        CHECK.is("14 another one", hill.number(0, 99), 1);
        CHECK.is("14 told", hill.tell(0), "99");
        CHECK.is("14 the same", hill.number(0, 99), 0);
        hill.power(0, 0);
        CHECK.is("14 no whole one", hill.number(0, 99), 1);
        CHECK.is("14 to 0", hill.number(0, 0), 1);
        CHECK.is("14 told 0", hill.tell(0), "0");
        CHECK.refused("14 no cell", hill, Check.INDEX, () -> hill.number(6, 100));
        CHECK.refused("14 too great", hill, Check.ARGUMENT, () -> hill.number(0, 100));
        CHECK.refused("14 below", hill, Check.ARGUMENT, () -> hill.number(0, -1));
    }

    private static void power() {
        Downhill hill = new Downhill();
        CHECK.is("15 of 0", hill.power(1, 0), 1);
        CHECK.is("15 is 1", hill.tell(1), "1");
        CHECK.is("15 of 1", hill.power(1, 1), 2);
        CHECK.is("15 is w", hill.tell(1), "w");
        CHECK.is("15 of w", hill.power(0, 1), 3);
        CHECK.is("15 is w^(w)", hill.tell(0), "w^(w)");
        for (int span = 4; span <= 40; span++) {
            CHECK.is("15 span", hill.power(0, 0), span);
        }
        CHECK.refused("15 above 40", hill, Check.STATE, () -> hill.power(0, 0));
        CHECK.refused("15 no cell", hill, Check.INDEX, () -> hill.power(6, 0));
        CHECK.refused("15 no cell of the height", hill, Check.INDEX, () -> hill.power(0, -1));
    }

    /** The CELLS: 0 has w, 1 has w^(2), 2 has w^(w), 3 has 2, 4 has w^(2)+w*2+3. */
    private static Downhill numbers() {
        Downhill hill = new Downhill();
        hill.number(0, 1);
        hill.power(0, 0);
        hill.number(3, 2);
        hill.power(1, 3);
        hill.power(2, 0);
        hill.make(4, 0, 1, 0);
        hill.make(4, 0, 4, 0);
        hill.number(5, 3);
        hill.make(4, 0, 4, 5);
        hill.number(5, 0);
        CHECK.is("16 numbers", hill.tell(2) + " " + hill.tell(4), "w^(w) w^(2)+w*2+3");
        return hill;
    }

    private static String made(Downhill hill, int how, int one, int other) {
        int span = hill.make(5, how, one, other);
        return hill.tell(5) + " " + span;
    }

    private static void makeSum() {
        Downhill hill = numbers();
        CHECK.is("16 2+w", made(hill, 0, 3, 0), "w 2");
        CHECK.is("16 w+2", made(hill, 0, 0, 3), "w+2 3");
        CHECK.is("16 alike heights together", made(hill, 0, 4, 0), "w^(2)+w*3 4");
        CHECK.is("16 those behind too", made(hill, 0, 0, 4), "w^(2)+w*2+3 5");
        CHECK.is("16 in the middle", made(hill, 0, 4, 1), "w^(2)*2 2");
        CHECK.is("16 itself", made(hill, 0, 4, 4), "w^(2)*2+w*2+3 5");
        CHECK.is("16 all lower", made(hill, 0, 4, 2), "w^(w) 3");
        CHECK.is("16 none lower", made(hill, 0, 2, 4), "w^(w)+w^(2)+w*2+3 8");
        hill.number(5, 0);
        CHECK.is("16 and 0", made(hill, 0, 4, 5), "w^(2)+w*2+3 5");
        hill.number(5, 0);
        CHECK.is("16 0 and", made(hill, 0, 5, 4), "w^(2)+w*2+3 5");
        hill.number(5, 0);
        CHECK.is("16 0 and 0", made(hill, 0, 5, 5), "0 0");
    }

    private static void makeJoined() {
        Downhill hill = numbers();
        CHECK.is("16 joined 2 and w", made(hill, 1, 3, 0), "w+2 3");
        CHECK.is("16 joined w and 2", made(hill, 1, 0, 3), "w+2 3");
        CHECK.is("16 joined alike", made(hill, 1, 4, 4), "w^(2)*2+w*4+6 5");
        CHECK.is("16 joined in the middle", made(hill, 1, 4, 0), "w^(2)+w*3+3 5");
        CHECK.is("16 joined above", made(hill, 1, 4, 2), "w^(w)+w^(2)+w*2+3 8");
        hill.number(5, 0);
        CHECK.is("16 joined and 0", made(hill, 1, 4, 5), "w^(2)+w*2+3 5");
        hill.number(5, 0);
        CHECK.is("16 joined 0 and", made(hill, 1, 5, 0), "w 2");
    }

    private static void makeProduct() {
        Downhill hill = numbers();
        CHECK.is("16 2*w", made(hill, 2, 3, 0), "w 2");
        CHECK.is("16 w*2", made(hill, 2, 0, 3), "w*2 2");
        CHECK.is("16 w*w", made(hill, 2, 0, 0), "w^(2) 2");
        CHECK.is("16 so often", made(hill, 2, 4, 3), "w^(2)*2+w*2+3 5");
        CHECK.is("16 by w", made(hill, 2, 4, 0), "w^(3) 2");
        CHECK.is("16 power by power", made(hill, 2, 4, 4), "w^(4)+w^(3)*2+w^(2)*3+w*2+3 9");
        CHECK.is("16 the height is a sum", made(hill, 2, 4, 2), "w^(w) 3");
        CHECK.is("16 the other way", made(hill, 2, 2, 4), "w^(w+2)+w^(w+1)*2+w^(w)*3 11");
        hill.number(5, 0);
        CHECK.is("16 by 0", made(hill, 2, 4, 5), "0 0");
        CHECK.is("16 0 by", made(hill, 2, 5, 4), "0 0");
    }

    private static void makeRefused() {
        Downhill hill = numbers();
        CHECK.refused("16 no cell", hill, Check.INDEX, () -> hill.make(6, 3, 0, 0));
        CHECK.refused("16 no first cell", hill, Check.INDEX, () -> hill.make(0, 3, -1, 0));
        CHECK.refused("16 no second cell", hill, Check.INDEX, () -> hill.make(0, 3, 0, 6));
        CHECK.refused("16 no how", hill, Check.ARGUMENT, () -> hill.make(0, 3, 0, 0));
        CHECK.refused("16 below", hill, Check.ARGUMENT, () -> hill.make(0, -1, 0, 0));
        hill.number(5, 99);
        hill.number(4, 99);
        CHECK.is("16 9801", made(hill, 2, 5, 4), "9801 1");
        CHECK.is("16 9900", made(hill, 0, 5, 4), "9900 1");
        CHECK.is("16 9999", made(hill, 1, 5, 4), "9999 1");
        hill.number(4, 1);
        CHECK.refused("16 10000", hill, Check.STATE, () -> hill.make(5, 0, 5, 4));
        CHECK.refused("16 10000 joined", hill, Check.STATE, () -> hill.make(5, 1, 4, 5));
        CHECK.refused("16 19998", hill, Check.STATE, () -> hill.make(5, 2, 5, 3));
        hill.power(5, 5);
        CHECK.is("16 w^(9999)", hill.tell(5), "w^(9999)");
        CHECK.refused("16 within heights", hill, Check.STATE, () -> hill.make(4, 2, 5, 0));
        CHECK.refused("16 within its own", hill, Check.STATE, () -> hill.make(5, 2, 5, 5));
        CHECK.refused("16 in a sum of heights", hill, Check.STATE, () -> hill.make(4, 2, 0, 5));
        CHECK.is("16 two unlike heights", made(hill, 1, 0, 5), "w^(9999)+w 4");
    }

    /** The CELL has w^(..w^(2)..) with a SPAN. */
    private static void tower(Downhill hill, int cell, int span) {
        hill.number(cell, 2);
        for (int i = 1; i < span; i++) {
            hill.power(cell, cell);
        }
    }

    private static void makeSpan() {
        Downhill hill = new Downhill();
        tower(hill, 0, 20);
        tower(hill, 1, 21);
        tower(hill, 2, 19);
        CHECK.is("16 the same twice", hill.make(3, 0, 0, 0), 20);
        CHECK.is("16 40", hill.make(4, 0, 1, 2), 40);
        CHECK.is("16 40 joined", hill.make(5, 1, 2, 1), 40);
        CHECK.is("16 are the same", hill.hold(4, 5), 0);
        CHECK.refused("16 41", hill, Check.STATE, () -> hill.make(3, 0, 1, 0));
        CHECK.refused("16 41 joined", hill, Check.STATE, () -> hill.make(3, 1, 0, 1));
        CHECK.is("16 the lower one goes", hill.make(3, 0, 0, 1), 21);
        CHECK.is("16 in a height", hill.make(3, 2, 1, 2), 39);
        CHECK.refused("16 more than that", hill, Check.STATE, () -> hill.make(3, 2, 4, 4));
    }

    private static String fallen(Downhill hill, int one, int n) {
        hill.number(5, 0);
        hill.make(5, 0, one, 5);
        hill.fall(5, n);
        return hill.tell(5);
    }

    private static void fall() {
        Downhill hill = numbers();
        CHECK.is("17 2", fallen(hill, 3, 9), "1");
        CHECK.is("17 w", fallen(hill, 0, 9), "9");
        CHECK.is("17 w by 0", fallen(hill, 0, 0), "0");
        CHECK.is("17 w^(2)", fallen(hill, 1, 3), "w*3");
        CHECK.is("17 w^(2) by 0", fallen(hill, 1, 0), "0");
        CHECK.is("17 w^(w)", fallen(hill, 2, 3), "w^(3)");
        CHECK.is("17 w^(w) by 0", fallen(hill, 2, 0), "1");
        CHECK.is("17 the lowest power alone", fallen(hill, 4, 5), "w^(2)+w*2+2");
        hill.make(4, 0, 0, 0);
        CHECK.is("17 once less", fallen(hill, 4, 3), "w+3");
        hill.make(4, 0, 2, 2);
        CHECK.is("17 once less of w^(w)", fallen(hill, 4, 2), "w^(w)+w^(2)");
        hill.make(4, 0, 0, 3);
        hill.power(4, 4);
        CHECK.is("17 w^(w+2)", hill.tell(4) + " " + fallen(hill, 4, 2), "w^(w+2) w^(w+1)*2");
        hill.fall(4, 2);
        CHECK.is("17 w^(w+1)*2", fallen(hill, 4, 3), "w^(w+1)+w^(w)*3");
        hill.power(4, 2);
        CHECK.is("17 height of a height", fallen(hill, 4, 4), "w^(w^(4))");
        CHECK.is("17 its span", hill.fall(4, 4), 3);
    }

    private static void fallRefused() {
        Downhill hill = new Downhill();
        tower(hill, 0, 40);
        CHECK.is("17 a tower", hill.fall(0, 3), 40);
        tower(hill, 0, 40);
        hill.make(1, 0, 0, 0);
        CHECK.refused("17 too long", hill, Check.STATE, () -> hill.fall(1, 3));
        tower(hill, 0, 20);
        hill.make(1, 0, 0, 0);
        CHECK.is("17 just 40", hill.fall(1, 3), 40);
        tower(hill, 0, 21);
        hill.make(1, 0, 0, 0);
        CHECK.refused("17 42", hill, Check.STATE, () -> hill.fall(1, 1));
        CHECK.is("17 by 0 a height goes", hill.fall(1, 0), 40);
        CHECK.refused("17 no cell", hill, Check.INDEX, () -> hill.fall(6, 10));
        CHECK.refused("17 no n", hill, Check.ARGUMENT, () -> hill.fall(5, 10));
        CHECK.refused("17 below", hill, Check.ARGUMENT, () -> hill.fall(5, -1));
        CHECK.refused("17 of 0", hill, Check.ELEMENT, () -> hill.fall(5, 0));
    }

    private static void undoOf(String what, Sentences.Asked call) {
        Downhill hill = ruledHill();
        int steps = hill.house(7);
        long before = hill.digest();
        String texts = texts(hill);
        call.of(hill);
        CHECK.is("18 one more by " + what, hill.house(7), steps + 1);
        CHECK.is("18 undo of " + what, hill.undo(), steps);
        CHECK.is("18 digest as ahead of " + what, hill.digest(), before);
        CHECK.is("18 texts as ahead of " + what, texts(hill), texts);
    }

    private static String texts(Downhill hill) {
        StringBuilder texts = new StringBuilder(hill.typed());
        for (int i = 0; i < 6; i++) {
            texts.append(' ').append(hill.term(i)).append(' ').append(hill.tell(i));
        }
        for (int rule = 0; rule < hill.house(1); rule++) {
            texts.append(' ').append(hill.side(rule, true)).append('>').append(hill.side(rule, false));
        }
        return texts.append(places(hill)).toString();
    }

    private static Downhill ruledHill() {
        Downhill hill = new Downhill();
        hill.say(2, 1, 5, 6, -1, -1);
        hill.keep(4);
        hill.say(9, 1, 2, 5, 6, -1);
        hill.keep(5);
        hill.rule(4, 5);
        hill.power(1, 0);
        return hill;
    }

    private static void undo() {
        undoOf("arity", hill -> hill.arity(3, 2));
        undoOf("say", hill -> hill.say(9, 1, 3, 7, -1, 8));
        undoOf("keep", hill -> hill.keep(3));
        undoOf("put", hill -> hill.put(4, 5, 5, 0));
        undoOf("cut", hill -> hill.cut(4, 1, 4));
        undoOf("rule", hill -> hill.rule(4, 4));
        undoOf("unrule", Downhill::unrule);
        undoOf("rank", hill -> hill.rank(2, 0));
        undoOf("way", hill -> hill.way(2, 2));
        undoOf("weight", hill -> hill.weight(5, 9));
        undoOf("sum", hill -> hill.sum(2, 9, 8, 7, 6));
        undoOf("base", hill -> hill.base(2));
        undoOf("number", hill -> hill.number(1, 50));
        undoOf("power", hill -> hill.power(2, 1));
        undoOf("make", hill -> hill.make(1, 0, 1, 1));
        undoOf("fall", hill -> hill.fall(1, 4));
        Downhill hill = ruledHill();
        hill.unrule();
        hill.rule(5, 5);
        hill.undo();
        CHECK.is("18 the rule is not back yet", hill.house(1), 0);
        hill.undo();
        CHECK.is("18 the rule is as it was", hill.side(0, true) + ">" + hill.side(0, false), "cbxy>bcxy");
    }

    private static void stepsBack() {
        Downhill hill = new Downhill();
        for (int i = 1; i <= 11; i++) {
            hill.number(0, i);
            CHECK.is("18 at most 8", hill.house(7), Math.min(i, 8));
        }
        hill.knock();
        hill.term(0);
        CHECK.is("18 a knock is none", hill.house(7), 8);
        for (int left = 7; left >= 3; left--) {
            CHECK.is("18 left", hill.undo(), left);
            CHECK.is("18 as it was", hill.tell(0), "" + (left + 3));
        }
        CHECK.is("18 one more in between", hill.number(0, 70) + hill.house(7), 5);
        for (int left = 3; left >= 0; left--) {
            CHECK.is("18 left then", hill.undo(), left);
            CHECK.is("18 as it was then", hill.tell(0), "" + (left + 3));
        }
        CHECK.refused("18 none is left", hill, Check.ELEMENT, hill::undo);
        CHECK.is("18 who knocked", hill.house(8), 1);
        CHECK.is("18 the oldest ones went", hill.tell(0), "3");
    }

    private static void knock() {
        Downhill hill = new Downhill();
        CHECK.is("19 first", hill.knock(), 1);
        CHECK.is("19 second", hill.knock(), 2);
        hill.base(1);
        CHECK.is("19 third", hill.knock(), 3);
        hill.undo();
        CHECK.is("19 undo leaves it", hill.house(8), 3);
        CHECK.is("19 no step back", hill.house(7), 0);
    }
}
