import java.io.IOException;

/** The edges of numbers: section 5, promises 14 to 17 and 39 to 41. */
public final class EdgesOfNumbersTest {
    private static final int MANY = -5;

    /** Two NUMBERS, their SUM, what they are JOINED, and their PRODUCT. */
    private static final String[][] MADE = {
        {"0", "0", "0", "0", "0"},
        {"0", "w", "w", "w", "0"},
        {"w", "0", "w", "w", "0"},
        {"w+1", "0", "w+1", "w+1", "0"},
        {"0", "w+1", "w+1", "w+1", "0"},
        {"3", "4", "7", "7", "12"},
        {"1", "w", "w", "w+1", "w"},
        {"5", "w", "w", "w+5", "w"},
        {"w", "5", "w+5", "w+5", "w*5"},
        {"w", "1", "w+1", "w+1", "w"},
        {"w", "w", "w*2", "w*2", "w^(2)"},
        {"w+1", "w", "w*2", "w*2+1", "w^(2)"},
        {"w+1", "2", "w+3", "w+3", "w*2+1"},
        {"w*2+3", "w*3+4", "w*5+4", "w*5+7", "w^(2)*3+w*8+3"},
        {"w^(2)+w", "w^(2)", "w^(2)*2", "w^(2)*2+w", "w^(4)"},
        {"w^(2)+w", "w", "w^(2)+w*2", "w^(2)+w*2", "w^(3)"},
        {"w^(2)+w*2+3", "w", "w^(2)+w*3", "w^(2)+w*3+3", "w^(3)"},
        {"w", "w^(2)+w*2+3", "w^(2)+w*2+3", "w^(2)+w*3+3", "w^(3)+w^(2)*2+w*3"},
        {"w^(w)", "w", "w^(w)+w", "w^(w)+w", "w^(w+1)"},
        {"w", "w^(w)", "w^(w)", "w^(w)+w", "w^(w)"},
        {"w^(w)+w", "w^(w)", "w^(w)*2", "w^(w)*2+w", "w^(w*2)"},
        {"w^(w+1)", "w^(w)+1", "w^(w+1)+w^(w)+1", "w^(w+1)+w^(w)+1", "w^(w*2)+w^(w+1)"},
        {"w^(w)+1", "w^(w+1)", "w^(w+1)", "w^(w+1)+w^(w)+1", "w^(w*2+1)"},
        {"w^(w^(2))", "w^(w)*2", "w^(w^(2))+w^(w)*2", "w^(w^(2))+w^(w)*2", "w^(w^(2)+w)*2"}};

    /** NUMBERS, each less than the next one. */
    private static final String[] RISING = {"0", "1", "2", "99", "w", "w+1", "w+2", "w*2", "w*2+1", "w*99+99", "w^(2)",
        "w^(2)+1", "w^(2)+w", "w^(2)+w+1", "w^(2)*2", "w^(3)", "w^(99)*99", "w^(w)", "w^(w)+1", "w^(w)+w", "w^(w)*2",
        "w^(w+1)", "w^(w+1)+w^(w)", "w^(w*2)", "w^(w^(2))", "w^(w^(2)+1)", "w^(w^(w))"};

    /** A NUMBER, what is said, and to what it FALLS. */
    private static final String[][] FALLEN = {
        {"1", "0", "0"}, {"1", "9", "0"}, {"2", "9", "1"}, {"99", "0", "98"}, {"w", "0", "0"}, {"w", "1", "1"},
        {"w", "9", "9"}, {"w*2", "0", "w"}, {"w*2", "3", "w+3"}, {"w+1", "9", "w"}, {"w+2", "9", "w+1"},
        {"w^(2)", "0", "0"}, {"w^(2)", "1", "w"}, {"w^(2)", "3", "w*3"}, {"w^(2)*2", "0", "w^(2)"},
        {"w^(2)*2", "1", "w^(2)+w"}, {"w^(2)+w", "2", "w^(2)+2"}, {"w^(5)", "9", "w^(4)*9"}, {"w^(w)", "0", "1"},
        {"w^(w)", "1", "w"}, {"w^(w)", "2", "w^(2)"}, {"w^(w)*2", "3", "w^(w)+w^(3)"}, {"w^(w+1)", "0", "0"},
        {"w^(w+1)", "1", "w^(w)"}, {"w^(w+1)", "2", "w^(w)*2"}, {"w^(w+2)", "2", "w^(w+1)*2"}, {"w^(w*2)", "0", "w^(w)"},
        {"w^(w*2)", "3", "w^(w+3)"}, {"w^(w^(2))", "0", "1"}, {"w^(w^(2))", "2", "w^(w*2)"}, {"w^(w^(w))", "0", "w"},
        {"w^(w^(w))", "2", "w^(w^(2))"}, {"w^(w)+1", "5", "w^(w)"}, {"w^(w)*3+w", "4", "w^(w)*3+4"},
        {"w^(w^(2)*2)*2", "1", "w^(w^(2)*2)+w^(w^(2)+w)"}};

    private final Sentences doc = new Sentences();

    private EdgesOfNumbersTest() throws IOException {
    }

    public static void main(String[] args) throws IOException {
        EdgesOfNumbersTest test = new EdgesOfNumbersTest();
        test.powers();
        test.told();
        test.rising();
        test.made();
        test.cells();
        test.spans();
        test.tooLong();
        test.tooOften();
        test.falls();
        test.number();
        test.power();
        test.make();
        test.makeTooLong();
        test.makeTooOften();
        test.fall();
        test.fallTooLong();
        test.tell();
        test.hold();
        test.game();
        test.gameTooLong();
        test.doc.end("edges of numbers", new int[] {5}, new int[] {14, 15, 16, 17, 39, 40, 41});
    }

    /** Makes a NUMBER in a CELL, as it is told; those behind it up to 3, and 5, are used for it. */
    private static void write(Downhill hill, int cell, String number) {
        hill.number(cell, 0);
        int from = 0;
        int open = 0;
        for (int i = 0; i <= number.length(); i++) {
            char sign = i < number.length() ? number.charAt(i) : '+';
            open += sign == '(' ? 1 : sign == ')' ? -1 : 0;
            if (sign == '+' && open == 0) {
                writePower(hill, cell + 1, number.substring(from, i));
                hill.make(cell, 0, cell, cell + 1);
                from = i + 1;
            }
        }
    }

    private static void writePower(Downhill hill, int cell, String power) {
        if (power.charAt(0) != 'w') {
            hill.number(cell, Integer.parseInt(power));
            return;
        }
        int close = power.lastIndexOf(')');
        int times = power.indexOf('*', close + 1);
        writeHeight(hill, cell, close < 0 ? "1" : power.substring(3, close));
        hill.power(cell, cell);
        if (times > 0) {
            hill.number(5, Integer.parseInt(power.substring(times + 1)));
            hill.make(cell, 2, cell, 5);
        }
    }

    private static void writeHeight(Downhill hill, int cell, String height) {
        if (height.equals("w")) {
            hill.number(cell, 1);
            hill.power(cell, cell);
        } else if (height.length() <= 2) {
            hill.number(cell, Integer.parseInt(height));
        } else {
            write(hill, cell, height);
        }
    }

    private static Downhill one(String number) {
        Downhill hill = new Downhill();
        write(hill, 0, number);
        return hill;
    }

    /** One NUMBER in the CELL 4, the other one in the CELL 0. */
    private static Downhill two(String one, String other) {
        Downhill hill = one(one);
        hill.number(5, 0);
        hill.make(4, 0, 0, 5);
        write(hill, 0, other);
        return hill;
    }

    /** w^(..w^(2)..) or w^(..w..), with a SPAN, in a CELL. */
    private static void tower(Downhill hill, int cell, int first, int span) {
        hill.number(cell, first);
        for (int i = 1; i < span; i++) {
            hill.power(cell, cell);
        }
    }

    private static Sentences.Maker towers(int first, int... spans) {
        return () -> {
            Downhill hill = new Downhill();
            for (int cell = 0; cell < spans.length; cell++) {
                tower(hill, cell, first, spans[cell]);
            }
            return hill;
        };
    }

    // ---- section 5

    private void powers() {
        doc.section(5, "the heights falling; no POWER at all is 0.");
        Downhill hill = new Downhill();
        doc.is("no power", hill.make(0, 0, 0, 0), 0);
        doc.is("is 0", hill.tell(0), "0");
        hill.number(0, 1);
        doc.is("the last one goes", hill.fall(0, 0), 0);
        doc.is("which is 0", hill.hold(0, 1), 0);
        Downhill falling = two("w^(w)+w^(2)+1", "w^(3)+w");
        falling.make(1, 1, 4, 0);
        doc.is("falling", falling.tell(1), "w^(w)+w^(3)+w^(2)+w+1");
        falling.make(1, 1, 0, 4);
        doc.is("falling the other way", falling.tell(1), "w^(w)+w^(3)+w^(2)+w+1");
    }

    private void told() {
        doc.section(5, "one of the height 0 as how often; of the height 1 (one POWER of the height 0, once) \"w\"; otherwise "
                + "\"w^(\", its height, \")\"; and with more than once \"*\" and how often behind; 0 as \"0\" "
                + "(\"w^(w+1)*2+w*3+4\").");
        String[] numbers = {"0", "1", "2", "10", "99", "w", "w*2", "w*99", "w+1", "w*3+4", "w^(2)", "w^(2)*2", "w^(10)", "w^(w)",
            "w^(w)*2", "w^(w*2)", "w^(w+1)", "w^(w+1)*2+w*3+4", "w^(w^(2))", "w^(w^(w))", "w^(w^(w))*3", "w^(w^(w)+w+1)",
            "w^(w^(2)*2)*2+w^(w)+w^(2)*9+w+1"};
        for (String number : numbers) {
            doc.is(one(number).tell(0), number);
        }
    }

    private void rising() {
        doc.section(5, "Of two NUMBERS the first unlike POWER decides: the greater height, then the greater how often; one that is "
                + "a beginning of the other is less.");
        for (int i = 0; i < RISING.length; i++) {
            for (int j = 0; j < RISING.length; j++) {
                doc.is(RISING[i] + " and " + RISING[j], two(RISING[i], RISING[j]).hold(4, 0), Integer.compare(i, j));
            }
        }
    }

    private void made() {
        String[] words = {"the POWERS of the first one that are not lower than the highest one of the second (all of them, if the "
                + "second one is 0), then those of the second (of alike heights how often together).",
            "JOINED: the POWERS of both, of alike heights together.",
            "PRODUCT: 0, if one of both is 0; otherwise POWER by POWER of the second one, from the highest on, these one behind "
                + "the other as by SUMS: with the height 0 the first NUMBER so often (its highest POWER so many times as often, "
                + "the others as they are); otherwise one POWER, its height the SUM of the first one's highest height and that "
                + "height, as often as that."};
        for (int how = 0; how < 3; how++) {
            doc.section(5, words[how]);
            for (String[] row : MADE) {
                Downhill hill = two(row[0], row[1]);
                int span = hill.make(1, how, 4, 0);
                doc.is(row[0] + " and " + row[1], hill.tell(1), row[2 + how]);
                doc.is("span of that", span, spanOf(row[2 + how]));
                doc.is("the two stay", hill.tell(4) + " " + hill.tell(0), row[0] + " " + row[1]);
            }
        }
    }

    /** A POWER each: "w" is two, as its height is 1. */
    private static int spanOf(String number) {
        int span = number.equals("0") ? 0 : number.split("[+(]").length;
        return span + number.replaceAll("w\\^", "").split("w", -1).length - 1;
    }

    private void cells() {
        doc.section(5, "CELLS 0 to 5 have a NUMBER each (0 at first).");
        for (int cell = 0; cell < 6; cell++) {
            Downhill hill = new Downhill();
            doc.is("at first", hill.tell(cell), "0");
            hill.number(cell, 7);
            for (int other = 0; other < 6; other++) {
                doc.is(cell + " told, " + other, hill.tell(other), other == cell ? "7" : "0");
            }
        }
    }

    private void spans() {
        doc.section(5, "SPAN of a NUMBER: how many POWERS it has, with those within heights.");
        String[] numbers = {"0", "1", "99", "w", "w*9", "w+1", "w*2+3", "w^(2)", "w^(2)*3+w+1", "w^(w)", "w^(w+1)", "w^(w^(2)+w+1)"};
        int[] spans = {0, 1, 1, 2, 2, 3, 3, 2, 5, 3, 4, 6};
        for (int i = 0; i < numbers.length; i++) {
            Downhill hill = one(numbers[i]);
            hill.number(5, 0);
            doc.is(numbers[i], hill.make(0, 0, 0, 5), spans[i]);
            doc.is("one power above it", hill.power(0, 0), spans[i] + 1);
        }
    }

    private void tooLong() {
        doc.section(5, "A call that would make one with a SPAN above 40, or with a how often above 9999 (also within heights), is "
                + "refused.");
        doc.is("40 by power", towers(1, 39).hill().power(1, 0), 40);
        doc.refused("41 by power", towers(1, 40), Check.STATE, hill -> hill.power(1, 0));
        doc.is("40 by make", towers(1, 21, 19).hill().make(2, 0, 0, 1), 40);
        doc.refused("41 by make", towers(1, 21, 20), Check.STATE, hill -> hill.make(2, 0, 0, 1));
        doc.is("41 powers, the lower ones of which go", towers(1, 20, 21).hill().make(2, 0, 0, 1), 21);
        doc.is("40 by fall", twice(2, 20).hill().fall(0, 1), 40);
        doc.refused("41 by fall", twice(1, 21), Check.STATE, hill -> hill.fall(0, 1));
    }

    /** The CELL 0 has a tower twice. */
    private static Sentences.Maker twice(int first, int span) {
        return () -> {
            Downhill hill = towers(first, span).hill();
            hill.make(0, 0, 0, 0);
            return hill;
        };
    }

    /** The CELL 0 has 9999, the CELL 1 has 1. */
    private static Downhill often() {
        Downhill hill = new Downhill();
        hill.number(0, 99);
        hill.number(1, 2);
        hill.make(1, 0, 0, 1);
        hill.make(0, 2, 0, 1);
        hill.number(1, 1);
        return hill;
    }

    private void tooOften() {
        doc.section(5, "or with a how often above 9999 (also within heights), is refused.");
        doc.is("9999", often().tell(0), "9999");
        doc.refused("10000", EdgesOfNumbersTest::often, Check.STATE, hill -> hill.make(0, 0, 0, 1));
        Sentences.Maker high = () -> {
            Downhill hill = often();
            hill.power(2, 0);
            hill.power(3, 1);
            return hill;
        };
        doc.is("within a height", high.hill().tell(2), "w^(9999)");
        doc.refused("10000 within a height", high, Check.STATE, hill -> hill.make(0, 2, 2, 3));
        doc.refused("10000 within a height, the other way", high, Check.STATE, hill -> hill.make(0, 2, 3, 2));
        doc.is("9999 beside it", high.hill().make(2, 0, 2, 0), 3);
        doc.is("9999 of them", high.hill().make(2, 2, 2, 0), 2);
    }

    private void falls() {
        doc.section(5, "its lowest POWER is once less; and, if its height was h above 0, in its place come: if the lowest POWER of h "
                + "has the height 0: n times (none by 0) the POWER of the height h, that POWER once less; otherwise once the "
                + "POWER of the height to which h FALLS by n.");
        for (String[] row : FALLEN) {
            Downhill hill = one(row[0]);
            int span = hill.fall(0, Integer.parseInt(row[1]));
            doc.is(row[0] + " by " + row[1], hill.tell(0), row[2]);
            doc.is("span of that", span, spanOf(row[2]));
        }
    }

    // ---- promises 14 to 17

    private void number() {
        doc.promise(14, "`IndexOutOfBoundsException` if there is no such CELL");
        doc.takes(Downhill::new, 0, 5, Check.INDEX, (hill, cell) -> hill.number(cell, 99));
        doc.refused("ahead of the number", Downhill::new, Check.INDEX, hill -> hill.number(6, 100));
        doc.refused("ahead of the number below", Downhill::new, Check.INDEX, hill -> hill.number(-1, -1));
        doc.promise(14, "`IllegalArgumentException` if number is not 0 to 99");
        doc.takes(Downhill::new, 0, 99, Check.ARGUMENT, (hill, number) -> hill.number(5, number));
        doc.promise(14, "A CELL has a whole number.");
        for (int number = 0; number <= 99; number++) {
            Downhill whole = new Downhill();
            whole.number(3, number);
            doc.is(whole.tell(3), "" + number);
        }
        doc.promise(14, "Returns 0, if it had that already, otherwise 1.");
        Downhill hill = new Downhill();
        doc.is("0 of 0", hill.number(0, 0), 0);
        doc.is("1 of 0", hill.number(0, 1), 1);
        doc.is("1 of 1", hill.number(0, 1), 0);
        doc.is("99 of 1", hill.number(0, 99), 1);
        doc.is("98 of 99", hill.number(0, 98), 1);
        doc.is("0 of 98", hill.number(0, 0), 1);
        doc.is("1 of w", one("w").number(0, 1), 1);
        doc.is("3 of w+3", one("w+3").number(0, 3), 1);
        doc.is("0 of w", one("w").number(0, 0), 1);
        doc.is("another cell", one("7").number(4, 7), 1);
        doc.is("99 of 9999", often().number(0, 99), 1);
    }

    private void power() {
        doc.promise(15, "`IndexOutOfBoundsException` if there is no such CELL as cell or height");
        doc.takes(Downhill::new, 0, 5, Check.INDEX, (hill, cell) -> hill.power(cell, 0));
        doc.takes(Downhill::new, 0, 5, Check.INDEX, (hill, height) -> hill.power(0, height));
        doc.refused("ahead of the span", towers(1, 40), Check.INDEX, hill -> hill.power(6, 0));
        doc.promise(15, "`IllegalStateException` if its SPAN would be above 40");
        for (int first = 1; first <= 2; first++) {
            doc.is("39 and one more", towers(first, 39).hill().power(5, 0), 40);
            doc.refused("40 and one more", towers(first, 40), Check.STATE, hill -> hill.power(5, 0));
            doc.refused("itself", towers(first, 40), Check.STATE, hill -> hill.power(0, 0));
        }
        doc.promise(15, "A CELL has the NUMBER of one POWER alone, once.");
        Downhill alone = one("w*2+1");
        alone.number(4, 5);
        alone.power(4, 0);
        doc.is(alone.tell(4) + " " + alone.tell(0), "w^(w*2+1) w*2+1");
        doc.promise(15, "Returns its SPAN.");
        Downhill hill = new Downhill();
        doc.is("of 0", hill.power(0, 1), 1);
        doc.is("is 1", hill.tell(0), "1");
        for (int span = 2; span <= 40; span++) {
            doc.is("of itself", hill.power(0, 0), span);
        }
        doc.is("of a row", one("w^(w)+w+1").power(1, 0), 7);
    }

    private void make() {
        doc.promise(16, "`IndexOutOfBoundsException` if there is no such CELL as cell, one or other");
        for (int how = 0; how < 3; how++) {
            int by = how;
            doc.takes(Downhill::new, 0, 5, Check.INDEX, (hill, cell) -> hill.make(cell, by, 0, 1));
            doc.takes(Downhill::new, 0, 5, Check.INDEX, (hill, one) -> hill.make(0, by, one, 1));
            doc.takes(Downhill::new, 0, 5, Check.INDEX, (hill, other) -> hill.make(0, by, 1, other));
        }
        doc.refused("ahead of how", Downhill::new, Check.INDEX, hill -> hill.make(6, 3, 0, 0));
        doc.refused("one ahead of how", Downhill::new, Check.INDEX, hill -> hill.make(0, -1, -1, 0));
        doc.refused("other ahead of how", Downhill::new, Check.INDEX, hill -> hill.make(0, 3, 0, 6));
        doc.refused("ahead of the span", towers(1, 21, 20), Check.INDEX, hill -> hill.make(6, 0, 0, 1));
        doc.refused("ahead of how often", EdgesOfNumbersTest::often, Check.INDEX, hill -> hill.make(-1, 0, 0, 1));
        doc.promise(16, "`IllegalArgumentException` if how is not 0 to 2");
        doc.takes(Downhill::new, 0, 2, Check.ARGUMENT, (hill, how) -> hill.make(0, how, 1, 2));
        doc.refused("ahead of the span", towers(1, 21, 20), Check.ARGUMENT, hill -> hill.make(2, 3, 0, 1));
        doc.refused("ahead of how often", EdgesOfNumbersTest::often, Check.ARGUMENT, hill -> hill.make(2, -1, 0, 1));
        doc.promise(16, "0 SUM, 1 JOINED, 2 PRODUCT");
        String[] hows = {"w*2", "w*2+1", "w^(2)"};
        for (int how = 0; how < 3; how++) {
            Downhill made = two("w+1", "w");
            made.make(1, how, 4, 0);
            doc.is("" + how, made.tell(1), hows[how]);
        }
        doc.promise(16, "A CELL has what comes of two NUMBERS.");
        doc.promise(16, "Returns its SPAN.");
        Downhill hill = two("w^(2)+w*2", "w+3");
        doc.is("to another cell", hill.make(1, 0, 4, 0), 5);
        doc.is("to the first one's", hill.make(4, 0, 4, 0), 5);
        doc.is("to the second one's", hill.make(0, 1, 4, 0), 5);
        doc.is(hill.tell(0) + " " + hill.tell(1) + " " + hill.tell(4), "w^(2)+w*4+6 w^(2)+w*3+3 w^(2)+w*3+3");
        doc.is("of one cell to itself", hill.make(0, 2, 0, 0), spanOf("w^(4)+w^(3)*4+w^(2)*6+w*4+6"));
        doc.is(hill.tell(0), "w^(4)+w^(3)*4+w^(2)*6+w*4+6");
    }

    private void makeTooLong() {
        doc.promise(16, "if its SPAN would be above 40");
        doc.is("40 joined", towers(2, 19, 21).hill().make(0, 1, 0, 1), 40);
        doc.refused("41 joined", towers(2, 20, 21), Check.STATE, hill -> hill.make(0, 1, 0, 1));
        doc.is("40 by a sum", towers(2, 21, 19).hill().make(0, 0, 0, 1), 40);
        doc.refused("41 by a sum", towers(2, 21, 20), Check.STATE, hill -> hill.make(1, 0, 0, 1));
        doc.is("the same twice", towers(2, 40).hill().make(1, 0, 0, 0), 40);
        doc.is("the same twice, joined", towers(2, 40).hill().make(1, 1, 0, 0), 40);
        doc.is("the same so often", towers(2, 40, 1).hill().make(2, 2, 0, 1), 40);
        doc.is("40 by a product", byNextPower("1").hill().make(1, 2, 0, 1), 40);
        doc.refused("41 by a product", byNextPower("w"), Check.STATE, hill -> hill.make(1, 2, 0, 1));
        doc.is("39 and a product with 0", towers(2, 40).hill().make(0, 2, 0, 1), 0);
    }

    /** The CELL 0 has a tower and another NUMBER behind it, the CELL 1 has w+1. */
    private static Sentences.Maker byNextPower(String behind) {
        return () -> {
            Downhill hill = one(behind);
            tower(hill, 1, 2, 19);
            hill.make(0, 0, 1, 0);
            write(hill, 1, "w+1");
            return hill;
        };
    }

    private void makeTooOften() {
        doc.promise(16, "or a how often above 9999");
        Sentences.Maker hundred = () -> {
            Downhill hill = two("w*99+99", "w+1");
            hill.make(0, 1, 0, 4);
            hill.number(1, 99);
            hill.number(2, 1);
            hill.make(1, 0, 1, 2);
            return hill;
        };
        doc.is("100 and 100", hundred.hill().tell(0) + " " + hundred.hill().tell(1), "w*100+100 100");
        doc.refused("10000 by a product", hundred, Check.STATE, hill -> hill.make(3, 2, 0, 1));
        Sentences.Maker most = () -> {
            Downhill hill = hundred.hill();
            hill.fall(1, 0);
            hill.make(3, 2, 0, 1);
            hill.make(4, 1, 3, 4);
            hill.power(5, 2);
            return hill;
        };
        doc.is("9900 by a product, its lower powers as they are", most.hill().tell(3), "w*9900+100");
        doc.is("9999 joined", most.hill().tell(4), "w*9999+199");
        doc.refused("10000 joined", most, Check.STATE, hill -> hill.make(0, 1, 4, 5));
        doc.refused("10000 by a sum", most, Check.STATE, hill -> hill.make(0, 0, 4, 5));
        doc.refused("19998 by a sum", most, Check.STATE, hill -> hill.make(0, 0, 4, 4));
        doc.is("9999 and a lower one", most.hill().make(5, 0, 4, 1), 3);
        Sentences.Maker behind = () -> {
            Downhill hill = often();
            hill.power(2, 1);
            hill.make(2, 0, 2, 0);
            return hill;
        };
        doc.is("9999 behind", behind.hill().tell(2), "w+9999");
        doc.refused("10000 behind", behind, Check.STATE, hill -> hill.make(3, 0, 2, 1));
        doc.refused("10000 behind, joined", behind, Check.STATE, hill -> hill.make(3, 1, 2, 1));
        doc.is("9999 behind that go", behind.hill().make(3, 0, 2, 2), 3);
    }

    private void fall() {
        doc.promise(17, "`IndexOutOfBoundsException` if there is no such CELL");
        Sentences.Maker six = () -> {
            Downhill hill = new Downhill();
            for (int cell = 0; cell < 6; cell++) {
                hill.number(cell, 2);
            }
            return hill;
        };
        doc.takes(six, 0, 5, Check.INDEX, (hill, cell) -> hill.fall(cell, 0));
        doc.refused("ahead of n", six, Check.INDEX, hill -> hill.fall(6, 10));
        doc.refused("ahead of n below", six, Check.INDEX, hill -> hill.fall(-1, -1));
        doc.promise(17, "`IllegalArgumentException` if n is not 0 to 9");
        doc.takes(six, 0, 9, Check.ARGUMENT, (hill, n) -> hill.fall(5, n));
        doc.refused("ahead of 0", Downhill::new, Check.ARGUMENT, hill -> hill.fall(0, 10));
        doc.refused("below, ahead of 0", Downhill::new, Check.ARGUMENT, hill -> hill.fall(0, -1));
        doc.refused("ahead of the span", twice(1, 21), Check.ARGUMENT, hill -> hill.fall(0, 10));
        doc.promise(17, "`NoSuchElementException` if it is 0");
        for (int n = 0; n <= 9; n++) {
            int said = n;
            doc.refused("0 by " + n, Downhill::new, Check.ELEMENT, hill -> hill.fall(5, said));
        }
        doc.refused("it fell to 0", () -> {
            Downhill hill = one("1");
            hill.fall(0, 3);
            return hill;
        }, Check.ELEMENT, hill -> hill.fall(0, 3));
        doc.promise(17, "The NUMBER of a CELL FALLS.");
        Downhill three = six.hill();
        three.fall(3, 9);
        doc.is("that cell alone", three.tell(2) + three.tell(3) + three.tell(4), "212");
        doc.promise(17, "Returns its SPAN then.");
        doc.is("0", one("1").fall(0, 9), 0);
        doc.is("1", one("2").fall(0, 9), 1);
        doc.is("more", one("w^(w)*2").fall(0, 1), 5);
    }

    private void fallTooLong() {
        doc.promise(17, "`IllegalStateException` if its SPAN would be above 40");
        doc.is("40", twice(2, 20).hill().fall(0, 9), 40);
        for (int n = 1; n <= 9; n++) {
            int said = n;
            doc.refused("41 by " + n, twice(1, 21), Check.STATE, hill -> hill.fall(0, said));
            doc.refused("42 by " + n, twice(2, 21), Check.STATE, hill -> hill.fall(0, said));
        }
        doc.is("40 by 0", twice(1, 21).hill().fall(0, 0), 40);
        doc.refused("42 by 0", twice(1, 22), Check.STATE, hill -> hill.fall(0, 0));
        doc.is("a tower of 40", towers(2, 40).hill().fall(0, 9), 40);
    }

    // ---- promises 39 to 41

    private void tell() {
        doc.promise(39, "`IndexOutOfBoundsException` if there is no such CELL");
        doc.takes(Downhill::new, 0, 5, Check.INDEX, Downhill::tell);
        doc.promise(39, "Returns its NUMBER.");
        doc.is("0", new Downhill().tell(5), "0");
        doc.is("9999", often().tell(0), "9999");
        StringBuilder tower = new StringBuilder();
        for (int i = 0; i < 38; i++) {
            tower.append("w^(");
        }
        tower.append('w');
        for (int i = 0; i < 38; i++) {
            tower.append(')');
        }
        doc.is("a span of 40", towers(1, 40).hill().tell(0), tower.toString());
    }

    private void hold() {
        doc.promise(40, "`IndexOutOfBoundsException` if there is no such CELL as one or other");
        doc.takes(Downhill::new, 0, 5, Check.INDEX, (hill, one) -> hill.hold(one, 0));
        doc.takes(Downhill::new, 0, 5, Check.INDEX, (hill, other) -> hill.hold(0, other));
        doc.promise(40, "Returns 1 if the NUMBER of the first one is greater, -1 if it is less, 0 if both are the same.");
        Downhill hill = two("w^(w)", "w+9");
        doc.is("" + hill.hold(4, 0) + hill.hold(0, 4) + hill.hold(4, 4), "1-10");
        doc.is("0 and 0", new Downhill().hold(0, 5), 0);
        doc.is("the same of two cells", two("w^(w)+2", "w^(w)+2").hold(4, 0), 0);
        doc.is("much less", often().hold(5, 0), -1);
    }

    private void game() {
        doc.promise(41, "`IndexOutOfBoundsException` if there is no such CELL");
        doc.takes(Downhill::new, 0, 5, Check.INDEX, (hill, cell) -> hill.game(cell, 0, 0));
        doc.refused("ahead of n", Downhill::new, Check.INDEX, hill -> hill.game(6, 10, 0));
        doc.refused("ahead of more", Downhill::new, Check.INDEX, hill -> hill.game(-1, 0, 4));
        doc.promise(41, "`IllegalArgumentException` if n is not 0 to 9, or more not 0 to 3");
        doc.takes(Downhill::new, 0, 9, Check.ARGUMENT, (hill, n) -> hill.game(0, n, 3));
        doc.takes(Downhill::new, 0, 3, Check.ARGUMENT, (hill, more) -> hill.game(0, 9, more));
        doc.takes(() -> one("w*2"), 0, 9, Check.ARGUMENT, (hill, n) -> hill.game(0, n, 3));
        doc.takes(() -> one("w*2"), 0, 3, Check.ARGUMENT, (hill, more) -> hill.game(0, 0, more));
        doc.promise(41, "Returns how often its NUMBER would FALL till it is 0;");
        doc.is("0", new Downhill().game(0, 9, 3), 0);
        doc.is("1", one("1").game(0, 9, 3), 1);
        doc.is("99", one("99").game(0, 9, 3), 99);
        doc.is("w by 0", one("w").game(0, 0, 3), 1);
        doc.is("w by 9", one("w").game(0, 9, 3), 10);
        doc.is("w*2 by 0, then 0", one("w*2").game(0, 0, 0), 2);
        doc.is("w*2 by 0, then 1", one("w*2").game(0, 0, 1), 3);
        doc.is("w*2 by 0, then 3", one("w*2").game(0, 0, 3), 5);
        doc.is("w*2 by 1, then nothing, then 3", one("w*2").game(0, 1, 1), 6);
        doc.is("w+1, by 2 the second time", one("w+1").game(0, 0, 2), 4);
        doc.is("w^(2) by 1, then 2, 3", one("w^(2)").game(0, 1, 1), 4);
        Downhill hill = one("w^(2)+w*2");
        String before = Sentences.all(hill);
        hill.game(0, 2, 1);
        doc.is("it would", Sentences.all(hill), before);
    }

    private void gameTooLong() {
        doc.promise(41, "MANY, if more than 300 times, or if it would have a SPAN above 40 at some moment.");
        for (int often = 299; often <= 301; often++) {
            Downhill whole = new Downhill();
            whole.number(1, 99);
            for (int i = 0; i < 3; i++) {
                whole.make(0, 0, 0, 1);
            }
            whole.number(1, often - 297);
            whole.make(0, 0, 0, 1);
            doc.is("" + often, whole.game(0, 9, 3), often <= 300 ? often : MANY);
            whole.number(1, 1);
            whole.power(1, 1);
            whole.make(0, 0, 1, 0);
            for (int i = 0; i < 10; i++) {
                whole.fall(0, 0);
            }
            doc.is(often + ", the last ones by w", whole.game(0, 9, 0), often <= 300 ? often : MANY);
        }
        doc.is("above 300 by w alone", one("w*31").game(0, 9, 0), MANY);
        doc.is("300 by w alone", one("w*30").game(0, 9, 0), 300);
        doc.is("w^(w) goes on", one("w^(w)").game(0, 3, 3), MANY);
        doc.is("a span of 40 at some moment", twice(2, 20).hill().game(0, 0, 0) > 0, true);
        doc.is("a span of 40 by 1", twice(2, 20).hill().game(0, 1, 0) > 0, true);
        doc.is("a span of 41 at some moment", twice(1, 21).hill().game(0, 1, 0), MANY);
        doc.is("not by 0", twice(1, 21).hill().game(0, 0, 0) > 0, true);
        doc.is("a span of 41 by the second time", twiceAndOne().game(0, 0, 1), MANY);
        doc.is("not by 0 each time", twiceAndOne().game(0, 0, 0) > 0, true);
        doc.is("a span of 22 at most", stairs(0, 10, 0, 1).game(0, 1, 0), 66);
        doc.is("a span of 39 at some moment, then less", stairs(0, 9, 1, 2).game(0, 1, 0), 112);
        doc.is("a span of 40 at some moment, then less", stairs(0, 9, 2, 2).game(0, 1, 0), 114);
        doc.is("a span of 41 at some moment, though it would be 0 by 98 falls", stairs(3, 8, 1, 2).game(0, 1, 0), MANY);
        doc.is("a span of 43 at some moment, though it would be 0 by 134 falls", stairs(0, 10, 1, 2).game(0, 1, 0), MANY);
        doc.is("not by 0", stairs(0, 10, 1, 2).game(0, 0, 0), 2);
    }

    /** w^(tower+w^(top)+ .. +w^(2)+w+more)*often: each of these stairs adds 2 to its SPAN. */
    private static Downhill stairs(int tower, int top, int more, int often) {
        Downhill hill = new Downhill();
        if (tower > 0) {
            tower(hill, 0, 1, tower);
        }
        for (int stair = top; stair > 0; stair--) {
            hill.number(1, stair);
            hill.power(1, 1);
            hill.make(0, 0, 0, 1);
        }
        hill.number(1, more);
        hill.make(0, 0, 0, 1);
        hill.power(0, 0);
        hill.number(1, often);
        hill.make(0, 2, 0, 1);
        return hill;
    }

    /** A tower twice and 1 behind it, with a SPAN of 22. */
    private static Downhill twiceAndOne() {
        Downhill hill = twice(1, 21).hill();
        hill.number(1, 1);
        hill.make(0, 0, 0, 1);
        return hill;
    }
}
