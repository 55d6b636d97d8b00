import java.util.Arrays;
import java.util.NoSuchElementException;

/** Orders of terms by which rules go down, and numbers beyond numbers. */
public final class Downhill {
    private static final int NONE = -1;
    private static final int MANY = -5;
    private static final int GREATEST = 2147483647;

    private static final int SIGNS = 5;
    private static final int VARIABLES = 3;
    private static final int LETTERS = 8;
    private static final int SLOTS = 6;
    private static final int CELLS = 6;
    private static final int RULES = 5;
    private static final int ORDERS = 3;
    private static final int KEEPSAKES = 8;

    private static final int PATHS = 0;
    private static final int WEIGHTS = 1;
    private static final int SUMS = 2;

    private static final int GREATER = 1;
    private static final int LESS = -1;
    private static final int ALIKE = 0;
    private static final int APART = 2;

    private static final int WAY_HEAP = 1;
    private static final int WAY_BACKWARD = 2;

    /** The greatest SIZE of a TERM in a SLOT, and the greatest one that steps are followed through. */
    private static final int KEPT_SIZE = 12;
    private static final int STEP_SIZE = 40;
    private static final int STEP_TERMS = 40;
    /** One STEP from a kept TERM makes at most 12 letters into 12 TERMS of up to 11 letters, and leaves 11. */
    private static final int REDUCT_SIZE = 160;

    /** All 120 ROWS do not fit into one long, so a set of ROWS comes in two halves. */
    private static final int ROWS = 120;
    private static final int HALF = 60;
    private static final int NOW = 2;
    private static final long EVERY_ROW = -1L;
    private static final int[] ROWS_BY_BEGINNING = {24, 6, 2, 1, 1};

    /** Right TERMS have at most 60 places in all, so a set of PAIRS is a long. */
    private static final int PAIRS = 60;
    private static final int CHOICES = 32;

    private static final int NUMBERS_OF_SIGN = 4;
    private static final int BASE_MOST = 3;
    /** A product is found by how often each own number stands in it: x once, y 7 times, z 49 times as far. */
    private static final int[] OWN_STEP = {1, 7, 49};
    /** A TERM of SIZE 12 has at most 6 VARIABLES: 6 * 49 is the farthest product. */
    private static final int PRODUCTS = 295;
    private static final int VALUES_AT_ONCE = 8;

    private static final int CLOSED_SIZE = 3;
    private static final int CLOSED_TERMS = 32;

    private static final int SPAN_MOST = 40;
    private static final int OFTEN_MOST = 9999;
    private static final int FALLS_MOST = 300;
    /** A NUMBER is a row of marks: for each POWER this one, the marks of its height, and how often. */
    private static final int OPEN = GREATEST;
    private static final int MARKS_MOST = 2 * SPAN_MOST;
    /** A PRODUCT has at most 40 * 41 + 80 POWERS, what a NUMBER FALLS to at most 40 * 40. */
    private static final int MARKS_ROOM = 4096;

    private static final String NAMES = "abcdexyz";

    private final Told now;
    private final Told[] past = new Told[KEEPSAKES];
    private int steps;
    private int nextStep;
    private int knocks;

    private final Term spare = new Term(KEPT_SIZE);
    private final Term reduced = new Term(REDUCT_SIZE);
    private final StringBuilder text = new StringBuilder();

    private final Orders orders;
    private final RowSets rowSets;
    private final Pairs pairs;
    private final Walks walks;
    private final Reckoner reckoner = new Reckoner();

    /** Creates a hill without terms. */
    public Downhill() {
        for (int i = 0; i < past.length; i++) {
            past[i] = new Told();
        }
        Told told = new Told();
        Paths paths = new Paths(told);
        now = told;
        orders = new Orders(told, paths);
        rowSets = new RowSets(told, paths);
        pairs = new Pairs(told);
        walks = new Walks(told);
    }

    // ---- what is told

    public int arity(int sign, int arity)
            throws IndexOutOfBoundsException, IllegalArgumentException, IllegalStateException {
        mustBeIndex(sign, SIGNS);
        mustBeWithin(arity, 0, 2);
        if (now.isUsed(sign)) {
            throw new IllegalStateException("the sign stands in a slot or in a rule");
        }
        int before = now.arity[sign];
        remember();
        now.arity[sign] = arity;
        return before;
    }

    public int say(int a, int b, int c, int d, int e, int f)
            throws IllegalArgumentException, IllegalStateException {
        int[] said = {a, b, c, d, e, f};
        for (int letter : said) {
            mustBeWithin(letter, NONE, 9);
        }
        spare.copyFrom(now.typed);
        for (int letter : said) {
            type(letter);
        }
        remember();
        now.typed.copyFrom(spare);
        return spare.size;
    }

    private void type(int letter) {
        if (letter == 9) {
            spare.clear();
        } else if (letter == 8) {
            spare.dropLast();
        } else if (letter != NONE) {
            if (spare.size >= KEPT_SIZE) {
                throw new IllegalStateException("too many letters are typed");
            }
            spare.add(letter);
        }
    }

    public int keep(int slot) throws IndexOutOfBoundsException {
        mustBeIndex(slot, SLOTS);
        int fault = now.typed.faultBy(now.arity);
        if (fault != NONE) {
            return -2 - fault;
        }
        remember();
        now.slot[slot].copyFrom(now.typed);
        now.slot[slot].shape(now.arity);
        return now.typed.size;
    }

    public int put(int slot, int variable, int by, int to)
            throws IndexOutOfBoundsException, IllegalArgumentException, NoSuchElementException, IllegalStateException {
        mustBeIndex(slot, SLOTS);
        mustBeIndex(by, SLOTS);
        mustBeIndex(to, SLOTS);
        mustBeWithin(variable, SIGNS, LETTERS - 1);
        Term term = termIn(slot);
        Term other = termIn(by);
        int size = term.size + term.countOf(variable, 0, term.size) * (other.size - 1);
        if (size > KEPT_SIZE) {
            throw new IllegalStateException("the term would be too long");
        }
        spare.clear();
        for (int i = 0; i < term.size; i++) {
            if (term.letter[i] == variable) {
                spare.addPart(other, 0, other.size);
            } else {
                spare.add(term.letter[i]);
            }
        }
        keepSpare(to);
        return size;
    }

    public int cut(int slot, int place, int to) throws IndexOutOfBoundsException {
        mustBeIndex(slot, SLOTS);
        mustBeIndex(to, SLOTS);
        Term term = now.slot[slot];
        mustBeIndex(place, term.size);
        spare.clear();
        spare.addPart(term, place, term.endOf(place));
        keepSpare(to);
        return spare.size;
    }

    private void keepSpare(int to) {
        spare.shape(now.arity);
        remember();
        now.slot[to].copyFrom(spare);
    }

    public int rule(int left, int right)
            throws IndexOutOfBoundsException, NoSuchElementException, IllegalArgumentException, IllegalStateException {
        mustBeIndex(left, SLOTS);
        mustBeIndex(right, SLOTS);
        Term one = termIn(left);
        Term other = termIn(right);
        if (one.isVariable(0) || !one.hasVariablesOf(other)) {
            throw new IllegalArgumentException("these terms make no rule");
        }
        if (now.rules >= RULES) {
            throw new IllegalStateException("there are as many rules as can be");
        }
        remember();
        int number = now.rules;
        now.left[number].copyFrom(one);
        now.right[number].copyFrom(other);
        now.rules = number + 1;
        return number;
    }

    public int unrule() throws NoSuchElementException {
        if (now.rules <= 0) {
            throw new NoSuchElementException("there is no rule");
        }
        remember();
        now.rules--;
        return now.rules;
    }

    public int rank(int sign, int place) throws IndexOutOfBoundsException {
        mustBeIndex(sign, SIGNS);
        mustBeIndex(place, SIGNS);
        int before = now.place[sign];
        remember();
        now.moveSign(sign, place);
        return before;
    }

    public int way(int sign, int way) throws IndexOutOfBoundsException, IllegalArgumentException {
        mustBeIndex(sign, SIGNS);
        mustBeWithin(way, 0, 2);
        int before = now.way[sign];
        remember();
        now.way[sign] = way;
        return before;
    }

    public int weight(int sign, int weight) throws IndexOutOfBoundsException, IllegalArgumentException {
        mustBeIndex(sign, SIGNS + 1);
        mustBeWithin(weight, sign == SIGNS ? 1 : 0, 9);
        int before = now.weight[sign];
        remember();
        now.weight[sign] = weight;
        return before;
    }

    public int sum(int sign, int k, int p, int q, int r) throws IndexOutOfBoundsException, IllegalArgumentException {
        mustBeIndex(sign, SIGNS);
        mustBeWithin(k, 0, 9);
        mustBeWithin(p, 0, 9);
        mustBeWithin(q, 0, 9);
        mustBeWithin(r, 0, 9);
        int before = now.numberOf(sign, 0);
        remember();
        now.tellNumbers(sign, k, p, q, r);
        return before;
    }

    public int base(int base) throws IllegalArgumentException {
        mustBeWithin(base, 0, BASE_MOST);
        int before = now.base;
        remember();
        now.base = base;
        return before;
    }

    public int number(int cell, int number) throws IndexOutOfBoundsException, IllegalArgumentException {
        mustBeIndex(cell, CELLS);
        mustBeWithin(number, 0, 99);
        Powers made = reckoner.whole(number);
        int answer = made.against(now.cell[cell]) == 0 ? 0 : 1;
        keepNumber(cell, made);
        return answer;
    }

    public int power(int cell, int height) throws IndexOutOfBoundsException, IllegalStateException {
        mustBeIndex(cell, CELLS);
        mustBeIndex(height, CELLS);
        Powers made = reckoner.powerOf(now.cell[height]);
        mustFit(made);
        return keepNumber(cell, made);
    }

    public int make(int cell, int how, int one, int other)
            throws IndexOutOfBoundsException, IllegalArgumentException, IllegalStateException {
        mustBeIndex(cell, CELLS);
        mustBeIndex(one, CELLS);
        mustBeIndex(other, CELLS);
        mustBeWithin(how, 0, 2);
        Powers made = reckoner.made(how, now.cell[one], now.cell[other]);
        mustFit(made);
        return keepNumber(cell, made);
    }

    public int fall(int cell, int n)
            throws IndexOutOfBoundsException, IllegalArgumentException, NoSuchElementException, IllegalStateException {
        mustBeIndex(cell, CELLS);
        mustBeWithin(n, 0, 9);
        if (now.cell[cell].size == 0) {
            throw new NoSuchElementException("the number is 0");
        }
        Powers made = reckoner.fallen(now.cell[cell], n);
        mustFit(made);
        return keepNumber(cell, made);
    }

    private int keepNumber(int cell, Powers made) {
        remember();
        now.cell[cell].copyFrom(made);
        return made.span();
    }

    // ---- steps back

    public int undo() throws NoSuchElementException {
        if (steps <= 0) {
            throw new NoSuchElementException("there is no step back");
        }
        steps--;
        nextStep = Math.floorMod(nextStep - 1, KEEPSAKES);
        now.copyFrom(past[nextStep]);
        return steps;
    }

    /** Adds a STEP BACK; the places of `past` go round, so that the oldest one makes room. */
    private void remember() {
        past[nextStep].copyFrom(now);
        nextStep = Math.floorMod(nextStep + 1, KEEPSAKES);
        steps = Math.min(steps + 1, KEEPSAKES);
    }

    public int knock() {
        knocks++;
        return knocks;
    }

    // ---- what is asked of terms

    public String term(int slot) throws IndexOutOfBoundsException {
        mustBeIndex(slot, SLOTS);
        return textOf(now.slot[slot]);
    }

    public String part(int slot, int place) throws IndexOutOfBoundsException {
        mustBeIndex(slot, SLOTS);
        Term term = now.slot[slot];
        mustBeIndex(place, term.size);
        text.setLength(0);
        term.tellTo(text, place, term.endOf(place));
        return text.toString();
    }

    public String typed() {
        return textOf(now.typed);
    }

    public int fault() {
        return now.typed.faultBy(now.arity);
    }

    public String side(int rule, boolean isLeft) throws IndexOutOfBoundsException {
        mustBeIndex(rule, now.rules);
        return textOf(isLeft ? now.left[rule] : now.right[rule]);
    }

    private String textOf(Term term) {
        text.setLength(0);
        term.tellTo(text, 0, term.size);
        return text.toString();
    }

    // ---- what is asked of orders

    public int compare(int order, int one, int other)
            throws IndexOutOfBoundsException, IllegalArgumentException, NoSuchElementException {
        mustBeIndex(one, SLOTS);
        mustBeIndex(other, SLOTS);
        mustBeOrder(order);
        return orders.stand(order, termIn(one), termIn(other));
    }

    public int heaps(int order, int one, int other) throws IllegalArgumentException {
        mustBeOrder(order);
        mustBeWithin(one, 0, (1 << SLOTS) - 1);
        mustBeWithin(other, 0, (1 << SLOTS) - 1);
        orders.findStands(order);
        return orders.standOfHeaps(one, other);
    }

    public int down(int order) throws IllegalArgumentException {
        mustBeOrder(order);
        return orders.rulesDown(order);
    }

    public boolean isGood(int order) throws IllegalArgumentException {
        mustBeOrder(order);
        return now.isOrderGood(order);
    }

    public String row() {
        rowSets.find();
        text.setLength(0);
        rowSets.tellTo(text);
        return text.toString();
    }

    public int stuck() {
        rowSets.find();
        return rowSets.fewestStuck();
    }

    public String differ(int order, int other, int size) throws IllegalArgumentException {
        mustBeOrder(order);
        mustBeOrder(other);
        mustBeWithin(size, 1, CLOSED_SIZE);
        text.setLength(0);
        orders.tellUnlike(text, order, other, size);
        return text.toString();
    }

    // ---- what is asked of pairs and steps

    public String pair(int nth) throws IllegalArgumentException {
        mustBeWithin(nth, 0, GREATEST);
        pairs.find();
        text.setLength(0);
        pairs.tellTo(text, nth);
        return text.toString();
    }

    public String ring(int nth) throws IllegalArgumentException {
        mustBeWithin(nth, 0, GREATEST);
        pairs.find();
        text.setLength(0);
        pairs.tellRingTo(text, pairs.ringAt(nth));
        return text.toString();
    }

    public boolean ends(int nth) throws IllegalArgumentException {
        mustBeWithin(nth, 0, GREATEST);
        pairs.find();
        return pairs.isEnding(pairs.ringAt(nth));
    }

    public String reduct(int slot, int nth)
            throws IndexOutOfBoundsException, IllegalArgumentException, NoSuchElementException {
        mustBeIndex(slot, SLOTS);
        mustBeWithin(nth, 0, GREATEST);
        walks.findReduct(termIn(slot), nth, reduced);
        return textOf(reduced);
    }

    public int longest(int slot) throws IndexOutOfBoundsException, NoSuchElementException {
        mustBeIndex(slot, SLOTS);
        return walks.longestFrom(termIn(slot));
    }

    public String bound(int slot) throws IndexOutOfBoundsException, NoSuchElementException {
        mustBeIndex(slot, SLOTS);
        termIn(slot);
        text.setLength(0);
        tellBound(slot, orders.hasBounds());
        return text.toString();
    }

    private void tellBound(int slot, boolean hasBounds) {
        if (hasBounds) {
            tellLong(text, orders.boundOf(now.slot[slot]));
        } else {
            text.append('-');
        }
    }

    /** StringBuilder is to be used with int alone, and a BOUND may be greater. */
    private static void tellLong(StringBuilder text, long number) {
        long unit = 1;
        for (int digits = 1; digits < 18 && unit <= number / 10; digits++) {
            unit *= 10;
        }
        for (; unit > 0; unit /= 10) {
            text.append((char) ('0' + number / unit % 10));
        }
    }

    public int loop(int most) throws IllegalArgumentException {
        mustBeWithin(most, 1, 2);
        return walks.firstLoop(most);
    }

    // ---- what is asked of numbers

    public String tell(int cell) throws IndexOutOfBoundsException {
        mustBeIndex(cell, CELLS);
        text.setLength(0);
        now.cell[cell].tellTo(text);
        return text.toString();
    }

    public int hold(int one, int other) throws IndexOutOfBoundsException {
        mustBeIndex(one, CELLS);
        mustBeIndex(other, CELLS);
        return now.cell[one].against(now.cell[other]);
    }

    public int game(int cell, int n, int more) throws IndexOutOfBoundsException, IllegalArgumentException {
        mustBeIndex(cell, CELLS);
        mustBeWithin(n, 0, 9);
        mustBeWithin(more, 0, 3);
        return reckoner.fallsOf(now.cell[cell], n, more);
    }

    // ---- all

    public int ofSign(int sign, int what) throws IndexOutOfBoundsException, IllegalArgumentException {
        mustBeIndex(sign, SIGNS);
        mustBeWithin(what, 0, 8);
        switch (what) {
            case 0:
                return now.arity[sign];
            case 1:
                return now.place[sign];
            case 2:
                return now.way[sign];
            case 3:
                return now.weight[sign];
            case 8:
                return now.definedSigns() >> sign & 1;
            default:
                return now.numberOf(sign, what - 4);
        }
    }

    public int house(int what) throws IllegalArgumentException {
        mustBeWithin(what, 0, 8);
        switch (what) {
            case 0:
                return Integer.bitCount(now.filledOf((1 << SLOTS) - 1));
            case 1:
                return now.rules;
            case 2:
                pairs.find();
                return pairs.count;
            case 3:
                pairs.find();
                return pairs.countRings();
            case 4:
                return now.typed.size;
            case 5:
                return now.weight[SIGNS];
            case 6:
                return now.base;
            case 7:
                return steps;
            default:
                return knocks;
        }
    }

    public boolean isSound() {
        boolean isSomeDown = false;
        for (int order = 0; order < ORDERS; order++) {
            isSomeDown |= orders.rulesDown(order) == now.allRules();
            orders.findStands(order);
            if (!orders.areStandsSound()) {
                return false;
            }
        }
        if (isSomeDown && walks.firstLoop(1) != NONE) {
            return false;
        }
        rowSets.find();
        return rowSets.areRowsSound() && areBoundsSound() && areFallsSound();
    }

    private boolean areBoundsSound() {
        if (!orders.hasBounds()) {
            return true;
        }
        for (int slot = 0; slot < SLOTS; slot++) {
            Term term = now.slot[slot];
            if (term.size > 0 && walks.longestFrom(term) > orders.boundOf(term)) {
                return false;
            }
        }
        return true;
    }

    private boolean areFallsSound() {
        for (Powers cell : now.cell) {
            if (cell.size > 0 && cell.against(reckoner.fallen(cell, 2)) <= 0) {
                return false;
            }
        }
        return true;
    }

    public long digest() {
        long d = digestTold(6163);
        d = digestOrders(d);
        d = digestPairs(d);
        d = digestSteps(d);
        for (int cell = 0; cell < CELLS; cell++) {
            text.setLength(0);
            now.cell[cell].tellTo(text);
            d = mix(d, text.length());
            d = mix(d, now.cell[cell].against(now.cell[0]));
        }
        d = mix(d, fault());
        return mix(d, isSound() ? 1 : 0);
    }

    private static long mix(long d, long v) {
        return d * 31 + v;
    }

    private long digestTold(long start) {
        long d = start;
        for (int what = 0; what <= 8; what++) {
            d = mix(d, house(what));
        }
        for (int sign = 0; sign < SIGNS; sign++) {
            for (int what = 0; what <= 8; what++) {
                d = mix(d, ofSign(sign, what));
            }
        }
        for (Term term : now.slot) {
            d = mix(d, term.size);
        }
        for (int rule = 0; rule < now.rules; rule++) {
            d = mix(d, now.left[rule].size);
            d = mix(d, now.right[rule].size);
        }
        return d;
    }

    private long digestOrders(long start) {
        long d = start;
        for (int order = 0; order < ORDERS; order++) {
            d = mix(d, orders.rulesDown(order));
            d = mix(d, now.isOrderGood(order) ? 1 : 0);
            if (now.slot[0].size > 0 && now.slot[1].size > 0) {
                d = mix(d, orders.stand(order, now.slot[0], now.slot[1]));
            }
            orders.findStands(order);
            d = mix(d, orders.standOfHeaps(7, 56));
        }
        rowSets.find();
        text.setLength(0);
        rowSets.tellTo(text);
        d = mix(d, text.length());
        return mix(d, rowSets.fewestStuck());
    }

    private long digestPairs(long start) {
        long d = start;
        pairs.find();
        for (int nth = 0; nth < pairs.count; nth++) {
            text.setLength(0);
            pairs.tellTo(text, nth);
            d = mix(d, text.length());
        }
        int rings = pairs.countRings();
        for (int nth = 0; nth < rings; nth++) {
            long ring = pairs.ringAt(nth);
            text.setLength(0);
            pairs.tellRingTo(text, ring);
            d = mix(d, text.length());
            d = mix(d, pairs.isEnding(ring) ? 1 : 0);
        }
        return d;
    }

    private long digestSteps(long start) {
        long d = start;
        boolean hasBounds = orders.hasBounds();
        for (int slot = 0; slot < SLOTS; slot++) {
            if (now.slot[slot].size > 0) {
                d = mix(d, walks.longestFrom(now.slot[slot]));
                text.setLength(0);
                tellBound(slot, hasBounds);
                d = mix(d, text.length());
            }
        }
        return mix(d, walks.firstLoop(2));
    }

    // ---- what must be so

    private static void mustBeIndex(int index, int behindLast) {
        if (index < 0 || index >= behindLast) {
            throw new IndexOutOfBoundsException("there is no such one");
        }
    }

    private static void mustBeWithin(int value, int least, int most) {
        if (value < least || value > most) {
            throw new IllegalArgumentException("this value can not be told");
        }
    }

    private static void mustBeOrder(int order) {
        mustBeWithin(order, 0, ORDERS - 1);
    }

    private static void mustFit(Powers made) {
        if (made.span() > SPAN_MOST || made.mostOften() > OFTEN_MOST) {
            throw new IllegalStateException("the number would be too long");
        }
    }

    private Term termIn(int slot) {
        Term term = now.slot[slot];
        if (term.size == 0) {
            throw new NoSuchElementException("the slot has no term");
        }
        return term;
    }

    /** A row of letters; if they are a TERM that is shaped, each place knows where its PART ends. */
    static final class Term {
        final int[] letter;
        final int[] end;
        int size;

        Term(int most) {
            int room = Math.max(most, 0);
            letter = new int[room];
            end = new int[room];
        }

        void clear() {
            size = 0;
        }

        void add(int one) {
            if (size < letter.length) {
                letter[size] = one;
                size++;
            }
        }

        void dropLast() {
            size = Math.max(size - 1, 0);
        }

        void addPart(Term other, int from, int to) {
            int length = Math.min(Math.min(to, other.size) - from, letter.length - size);
            if (from >= 0 && length > 0) {
                System.arraycopy(other.letter, from, letter, size, length);
                size += length;
            }
        }

        void copyFrom(Term other) {
            int length = Math.min(other.size, letter.length);
            System.arraycopy(other.letter, 0, letter, 0, length);
            System.arraycopy(other.end, 0, end, 0, length);
            size = length;
        }

        /** From the last letter on, since a PART ends where the last one of its TERMS ends. */
        void shape(int[] arity) {
            for (int i = size - 1; i >= 0; i--) {
                int behind = i + 1;
                for (int k = kidsBy(arity, letter[i]); k > 0; k--) {
                    behind = behind < size ? end[behind] : size;
                }
                end[i] = behind;
            }
        }

        /** The FAULT, NONE for a TERM: `open` tells how many TERMS are still to come. */
        int faultBy(int[] arity) {
            int open = 1;
            for (int i = 0; i < size; i++) {
                open += kidsBy(arity, letter[i]) - 1;
                if (open == 0) {
                    return i + 1 < size ? i + 1 : NONE;
                }
            }
            return size;
        }

        static int kidsBy(int[] arity, int letter) {
            return letter >= 0 && letter < SIGNS && letter < arity.length ? arity[letter] : 0;
        }

        int endOf(int place) {
            return place >= 0 && place < size ? end[place] : size;
        }

        /** Where the first (0) or the second (1) TERM of the SIGN at a place begins, if there is such. */
        int kid(int place, int nth) {
            return nth == 0 ? place + 1 : endOf(place + 1);
        }

        int letterAt(int place) {
            return place >= 0 && place < size ? letter[place] : NONE;
        }

        boolean isVariable(int place) {
            return place >= 0 && place < size && letter[place] >= SIGNS;
        }

        int countOf(int one, int from, int to) {
            int count = 0;
            for (int i = Math.max(from, 0); i < to && i < size; i++) {
                if (letter[i] == one) {
                    count++;
                }
            }
            return count;
        }

        boolean hasVariablesOf(Term other) {
            for (int variable = SIGNS; variable < LETTERS; variable++) {
                if (other.countOf(variable, 0, other.size) > 0 && countOf(variable, 0, size) == 0) {
                    return false;
                }
            }
            return true;
        }

        /** Whether the PART at a place and that at a place of another TERM are the same. */
        boolean isSamePart(int place, Term other, int otherPlace) {
            if (place < 0 || place >= size || otherPlace < 0 || otherPlace >= other.size) {
                return false;
            }
            int length = end[place] - place;
            if (other.end[otherPlace] - otherPlace != length) {
                return false;
            }
            for (int k = 0; k < length && place + k < size && otherPlace + k < other.size; k++) {
                if (letter[place + k] != other.letter[otherPlace + k]) {
                    return false;
                }
            }
            return true;
        }

        void tellTo(StringBuilder text, int from, int to) {
            for (int i = Math.max(from, 0); i < to && i < size; i++) {
                int one = letter[i];
                if (one >= 0 && one < NAMES.length()) {
                    text.append(NAMES.charAt(one));
                }
            }
        }
    }

    /** All that is told, in one object, so that a STEP BACK is one copy of it. */
    static final class Told {
        final int[] arity = {0, 1, 2, 0, 1};
        final Term typed = new Term(KEPT_SIZE);
        final Term[] slot = new Term[SLOTS];
        final Term[] left = new Term[RULES];
        final Term[] right = new Term[RULES];
        int rules;
        final int[] place = {0, 1, 2, 3, 4};
        final int[] way = new int[SIGNS];
        /** That of the VARIABLES stands behind those of the SIGNS. */
        final int[] weight = {1, 1, 1, 1, 1, 1};
        final int[] numbers = new int[SIGNS * NUMBERS_OF_SIGN];
        int base;
        final Powers[] cell = new Powers[CELLS];

        Told() {
            for (int i = 0; i < SLOTS; i++) {
                slot[i] = new Term(KEPT_SIZE);
            }
            for (int i = 0; i < RULES; i++) {
                left[i] = new Term(KEPT_SIZE);
                right[i] = new Term(KEPT_SIZE);
            }
            for (int i = 0; i < CELLS; i++) {
                cell[i] = new Powers(MARKS_MOST);
            }
            for (int sign = 0; sign < SIGNS; sign++) {
                tellNumbers(sign, 1, 1, 1, 0);
            }
        }

        void copyFrom(Told other) {
            System.arraycopy(other.arity, 0, arity, 0, SIGNS);
            System.arraycopy(other.place, 0, place, 0, SIGNS);
            System.arraycopy(other.way, 0, way, 0, SIGNS);
            System.arraycopy(other.weight, 0, weight, 0, SIGNS + 1);
            System.arraycopy(other.numbers, 0, numbers, 0, SIGNS * NUMBERS_OF_SIGN);
            base = other.base;
            rules = other.rules;
            typed.copyFrom(other.typed);
            for (int i = 0; i < SLOTS; i++) {
                slot[i].copyFrom(other.slot[i]);
            }
            for (int i = 0; i < RULES; i++) {
                left[i].copyFrom(other.left[i]);
                right[i].copyFrom(other.right[i]);
            }
            for (int i = 0; i < CELLS; i++) {
                cell[i].copyFrom(other.cell[i]);
            }
        }

        boolean isUsed(int sign) {
            for (Term term : slot) {
                if (term.countOf(sign, 0, term.size) > 0) {
                    return true;
                }
            }
            for (int i = 0; i < rules && i < RULES; i++) {
                if (left[i].countOf(sign, 0, left[i].size) + right[i].countOf(sign, 0, right[i].size) > 0) {
                    return true;
                }
            }
            return false;
        }

        void moveSign(int sign, int to) {
            int from = place[sign];
            for (int i = 0; i < SIGNS; i++) {
                if (place[i] > from && place[i] <= to) {
                    place[i]--;
                } else if (place[i] < from && place[i] >= to) {
                    place[i]++;
                }
            }
            place[sign] = to;
        }

        void tellNumbers(int sign, int k, int p, int q, int r) {
            int first = sign * NUMBERS_OF_SIGN;
            if (first >= 0 && first + 3 < numbers.length) {
                numbers[first] = k;
                numbers[first + 1] = p;
                numbers[first + 2] = q;
                numbers[first + 3] = r;
            }
        }

        /** k, p, q or r of a SIGN, which are 0 to 3. */
        int numberOf(int sign, int nth) {
            int at = sign * NUMBERS_OF_SIGN + nth;
            return at >= 0 && at < numbers.length ? numbers[at] : 0;
        }

        int allRules() {
            return (1 << rules) - 1;
        }

        int definedSigns() {
            int defined = 0;
            for (int i = 0; i < rules && i < RULES; i++) {
                defined |= 1 << left[i].letterAt(0);
            }
            return defined;
        }

        int filledOf(int slots) {
            int filled = 0;
            for (int i = 0; i < SLOTS; i++) {
                if (slot[i].size > 0) {
                    filled |= 1 << i;
                }
            }
            return filled & slots;
        }

        boolean isOrderGood(int order) {
            for (int sign = 0; sign < SIGNS; sign++) {
                boolean isSignGood = order == PATHS
                        || order == WEIGHTS && isWeightGood(sign)
                        || order == SUMS && areNumbersGood(sign);
                if (!isSignGood) {
                    return false;
                }
            }
            return true;
        }

        private boolean isWeightGood(int sign) {
            if (arity[sign] == 0) {
                return weight[sign] >= weight[SIGNS];
            }
            return arity[sign] == 2 || weight[sign] > 0 || place[sign] == SIGNS - 1;
        }

        private boolean areNumbersGood(int sign) {
            if (arity[sign] == 0) {
                return numberOf(sign, 0) >= base;
            }
            return numberOf(sign, 1) > 0 && (arity[sign] == 1 || numberOf(sign, 2) > 0);
        }
    }

    /** How TERMS stand by PATHS, for all ROWS at once: a set of ROWS (of one half of all) is a long. */
    static final class Paths {
        private final Told told;
        private final long[][] higher = new long[2][SIGNS * SIGNS];
        /** For the PARTS at each place of the one TERM and at each place of the other one. */
        private final long[][] alike = new long[KEPT_SIZE][KEPT_SIZE];
        private final long[][] greater = new long[KEPT_SIZE][KEPT_SIZE];
        /** Whether the last two TERMS that were looked at are ALIKE. */
        boolean areLastAlike;

        Paths(Told told) {
            this.told = told;
            int[] row = new int[SIGNS];
            for (int nth = 0; nth < ROWS; nth++) {
                fillRow(nth, row);
                for (int low = 0; low < SIGNS; low++) {
                    for (int high = low + 1; high < SIGNS; high++) {
                        higher[nth / HALF][row[high] * SIGNS + row[low]] |= 1L << nth % HALF;
                    }
                }
            }
        }

        /** Fills in the SIGNS of the ROW with a number, the lowest one first. */
        static void fillRow(int nth, int[] row) {
            int rest = nth;
            int free = (1 << SIGNS) - 1;
            for (int i = 0; i < SIGNS && i < row.length; i++) {
                int rows = Math.max(ROWS_BY_BEGINNING[i], 1);
                int skip = rest / rows;
                rest -= skip * rows;
                for (int sign = 0; sign < SIGNS; sign++) {
                    if ((free >> sign & 1) != 0) {
                        if (skip == 0) {
                            row[i] = sign;
                            free &= ~(1 << sign);
                            break;
                        }
                        skip--;
                    }
                }
            }
        }

        private static boolean fits(Term term) {
            return term.size > 0 && term.size <= KEPT_SIZE;
        }

        /** From the last places on, since each PART stands by those behind it; EVERY_ROW or none, as no ROW matters. */
        private void fillAlike(Term s, Term t) {
            for (int i = s.size - 1; i >= 0; i--) {
                for (int j = t.size - 1; j >= 0; j--) {
                    boolean isSame = s.letter[i] == t.letter[j];
                    alike[i][j] = isSame && (s.isVariable(i) || areKidsAlike(s, i, t, j)) ? EVERY_ROW : 0;
                }
            }
        }

        private boolean areKidsAlike(Term s, int i, Term t, int j) {
            int kids = told.arity[s.letter[i]];
            if (kids == 0) {
                return true;
            }
            int a = i + 1;
            int c = j + 1;
            int b = lastKid(s, i, kids);
            int d = lastKid(t, j, kids);
            if (b >= s.size || d >= t.size) {
                return false;
            }
            long rows = alike[a][c] & alike[b][d];
            if (told.way[s.letter[i]] == WAY_HEAP) {
                rows |= alike[a][d] & alike[b][c];
            }
            return rows != 0;
        }

        /** Where the last TERM of a SIGN begins; with the ARITY 1 the first one is the last one, too. */
        private static int lastKid(Term term, int place, int kids) {
            return kids == 2 && place + 1 < term.size ? term.end[place + 1] : place + 1;
        }

        /**
         * The set of ROWS of a half by which s is GREATER than t; with the half NOW
         * EVERY_ROW or none, as it is by the ROW that is told.
         */
        long rowsGreater(Term s, Term t, int half) {
            areLastAlike = false;
            if (!fits(s) || !fits(t)) {
                return 0;
            }
            fillAlike(s, t);
            for (int i = s.size - 1; i >= 0; i--) {
                for (int j = t.size - 1; j >= 0; j--) {
                    greater[i][j] = s.isVariable(i) ? 0 : rowsOfPart(s, i, t, j, half);
                }
            }
            areLastAlike = alike[0][0] != 0;
            return greater[0][0];
        }

        /** The PART of s begins with a SIGN; a VARIABLE that stands in it is ALIKE to some PART behind. */
        private long rowsOfPart(Term s, int i, Term t, int j, int half) {
            int f = s.letter[i];
            int g = t.letter[j];
            int kids = Term.kidsBy(told.arity, f);
            int others = Term.kidsBy(told.arity, g);
            int b = lastKid(s, i, kids);
            int d = lastKid(t, j, others);
            if (kids > 0 && b >= s.size || others > 0 && d >= t.size) {
                return 0;
            }
            long byKid = 0;
            if (kids > 0) {
                byKid = greater[i + 1][j] | greater[b][j] | alike[i + 1][j] | alike[b][j];
            }
            if (g >= SIGNS) {
                return byKid;
            }
            long overKids = others > 0 ? greater[i][j + 1] & greater[i][d] : EVERY_ROW;
            if (f != g) {
                return byKid | overKids & rowsHigher(f, g, half);
            }
            return kids > 0 ? byKid | overKids & rowsMore(told.way[f], i + 1, b, j + 1, d) : byKid;
        }

        private long rowsHigher(int f, int g, int half) {
            if (half == NOW) {
                return told.place[f] > told.place[g] ? EVERY_ROW : 0;
            }
            return half == 0 || half == 1 ? higher[half][f * SIGNS + g] : 0;
        }

        /** The ROWS by which the TERMS at a and b are MORE than those at c and d. */
        private long rowsMore(int way, int a, int b, int c, int d) {
            int first = c;
            int last = d;
            boolean isHeap = way == WAY_HEAP;
            if (isHeap && (alike[a][c] | alike[b][d]) == 0 && (alike[a][d] | alike[b][c]) != 0) {
                first = d;
                last = c;
            }
            boolean isFirstOut = alike[a][first] != 0;
            boolean isLastOut = alike[b][last] != 0;
            if (isFirstOut && isLastOut) {
                return 0;
            }
            if (isHeap && !isFirstOut && !isLastOut) {
                return (greater[a][first] | greater[b][first]) & (greater[a][last] | greater[b][last]);
            }
            boolean isLastDeciding = way == WAY_BACKWARD ? !isLastOut : isFirstOut;
            return isLastDeciding ? greater[b][last] : greater[a][first];
        }
    }

    /** By which ROWS which RULES go down by PATHS. */
    static final class RowSets {
        private final Told told;
        private final Paths paths;
        private final long[][] down = new long[2][RULES];
        private final int[] row = new int[SIGNS];

        RowSets(Told told, Paths paths) {
            this.told = told;
            this.paths = paths;
        }

        /** Is called ahead of all other methods, since the RULES, the WAYS and ARITIES change. */
        void find() {
            for (int half = 0; half < 2; half++) {
                for (int rule = 0; rule < told.rules && rule < RULES; rule++) {
                    down[half][rule] = paths.rowsGreater(told.left[rule], told.right[rule], half);
                }
            }
        }

        private long rowsFor(int rules, int half) {
            long rows = (1L << HALF) - 1;
            for (int rule = 0; rule < RULES; rule++) {
                if ((rules >> rule & 1) != 0) {
                    rows &= down[half][rule];
                }
            }
            return rows;
        }

        private boolean hasRowFor(int rules) {
            return (rowsFor(rules, 0) | rowsFor(rules, 1)) != 0;
        }

        /** The number of the first ROW by which these RULES go down, NONE without. */
        private int firstFor(int rules) {
            long rows = rowsFor(rules, 0);
            long later = rowsFor(rules, 1);
            for (int nth = 0; nth < HALF; nth++) {
                if ((rows >> nth & 1) != 0) {
                    return nth;
                }
            }
            for (int nth = 0; nth < HALF; nth++) {
                if ((later >> nth & 1) != 0) {
                    return HALF + nth;
                }
            }
            return NONE;
        }

        void tellTo(StringBuilder text) {
            int nth = firstFor(told.allRules());
            if (nth == NONE) {
                text.append('-');
                return;
            }
            Paths.fillRow(nth, row);
            for (int sign : row) {
                text.append(NAMES.charAt(sign));
            }
        }

        /** The fewest RULES, then the smallest set of them, that no ROW makes go down; 0 if one makes all. */
        int fewestStuck() {
            int all = told.allRules();
            if (hasRowFor(all)) {
                return 0;
            }
            for (int count = 1; count <= RULES; count++) {
                for (int rules = 1; rules <= all; rules++) {
                    if (Integer.bitCount(rules) == count && !hasRowFor(rules)) {
                        return rules;
                    }
                }
            }
            return 0;
        }

        boolean areRowsSound() {
            int nth = firstFor(told.allRules());
            if (nth != NONE) {
                return isDownBy(nth);
            }
            int stuckRules = fewestStuck();
            for (int rule = 0; rule < RULES; rule++) {
                if ((stuckRules >> rule & 1) != 0 && !hasRowFor(stuckRules & ~(1 << rule))) {
                    return false;
                }
            }
            return true;
        }

        private boolean isDownBy(int nth) {
            for (int rule = 0; rule < told.rules && rule < RULES; rule++) {
                long rows = nth < HALF ? down[0][rule] : down[1][rule];
                if ((rows >> nth % HALF & 1) == 0) {
                    return false;
                }
            }
            return true;
        }
    }

    /** A value by SUMS: how often each product of own numbers stands in it. */
    static final class Value {
        final long[] often = new long[PRODUCTS];
        /** Behind this place there is nothing, so that short values are quickly worked on. */
        int top;

        void clear() {
            Arrays.fill(often, 0, top, 0);
            top = 0;
        }

        void copyFrom(Value other) {
            Arrays.fill(often, 0, top, 0);
            System.arraycopy(other.often, 0, often, 0, other.top);
            top = other.top;
        }

        /** Of a VARIABLE; there is nothing in it ahead of that. */
        void setOwn(int letter, int base) {
            int variable = letter - SIGNS;
            if (variable >= 0 && variable < OWN_STEP.length) {
                often[0] = base;
                often[OWN_STEP[variable]] = 1;
                top = OWN_STEP[variable] + 1;
            }
        }

        /** k + p * u + q * v + r * u * v; u and v have nothing, if there is no such TERM, nor has this ahead of that. */
        void setBy(int k, int p, int q, int r, Value u, Value v) {
            top = Math.max(1, Math.max(u.top, v.top));
            for (int n = 0; n < top; n++) {
                often[n] = p * u.often[n] + q * v.often[n];
            }
            often[0] += k;
            if (r == 0 || u.top == 0 || v.top == 0) {
                return;
            }
            top = Math.min(u.top + v.top - 1, PRODUCTS);
            for (int n = 0; n < u.top; n++) {
                if (u.often[n] != 0) {
                    for (int m = 0; m < v.top && n + m < PRODUCTS; m++) {
                        often[n + m] += r * u.often[n] * v.often[m];
                    }
                }
            }
        }

        boolean isSame(Value other) {
            int most = Math.max(top, other.top);
            for (int n = 0; n < most; n++) {
                if (often[n] != other.often[n]) {
                    return false;
                }
            }
            return true;
        }

        boolean isGreater(Value other) {
            int most = Math.max(top, other.top);
            for (int n = 1; n < most; n++) {
                if (often[n] < other.often[n]) {
                    return false;
                }
            }
            return often[0] > other.often[0];
        }
    }

    /** The values of TERMS by SUMS. */
    static final class Values {
        private final Told told;
        private final Value[] open = new Value[VALUES_AT_ONCE];
        private final Value nothing = new Value();
        private final Value one = new Value();
        private final Value other = new Value();

        Values(Told told) {
            this.told = told;
            for (int i = 0; i < open.length; i++) {
                open[i] = new Value();
            }
        }

        /** GREATER or ALIKE, as s is to t, otherwise APART. */
        int oneWay(Term s, Term t) {
            fill(one, s);
            fill(other, t);
            if (one.isGreater(other)) {
                return GREATER;
            }
            return one.isSame(other) ? ALIKE : APART;
        }

        /** The value with all own numbers 0. */
        long least(Term term) {
            fill(one, term);
            return one.often[0];
        }

        /** From the last letter on: the value of a SIGN takes the place of those of its TERMS, the first one last. */
        private void fill(Value into, Term term) {
            int opened = 0;
            for (int i = term.size - 1; i >= 0; i--) {
                int letter = term.letter[i];
                int kids = Term.kidsBy(told.arity, letter);
                int at = opened - kids;
                if (at < 0 || opened >= open.length) {
                    return;
                }
                Value made = open[opened];
                made.clear();
                if (letter >= SIGNS) {
                    made.setOwn(letter, told.base);
                } else {
                    Value u = kids > 0 ? open[opened - 1] : nothing;
                    Value v = kids > 1 ? open[at] : nothing;
                    made.setBy(told.numberOf(letter, 0), told.numberOf(letter, 1),
                            told.numberOf(letter, 2), told.numberOf(letter, 3), u, v);
                }
                open[opened] = open[at];
                open[at] = made;
                opened = at + 1;
            }
            into.copyFrom(open[0]);
        }
    }

    /** How TERMS and HEAPS of them stand by each ORDER. */
    static final class Orders {
        private final Told told;
        private final Paths paths;
        private final Values values;
        private final Term[] closed = new Term[CLOSED_TERMS];
        private final Term trial = new Term(CLOSED_SIZE);
        private int closedCount;
        /** For each SLOT the set of those than which it is GREATER, and of those to which it is ALIKE. */
        private final int[] below = new int[SLOTS];
        private final int[] alike = new int[SLOTS];

        Orders(Told told, Paths paths) {
            this.told = told;
            this.paths = paths;
            values = new Values(told);
            for (int i = 0; i < closed.length; i++) {
                closed[i] = new Term(CLOSED_SIZE);
            }
        }

        /** GREATER or ALIKE, as s is to t, otherwise APART; by an ORDER that is GOOD. */
        private int oneWay(int order, Term s, Term t) {
            if (order == SUMS) {
                return values.oneWay(s, t);
            }
            if (order == PATHS ? paths.rowsGreater(s, t, NOW) != 0 : isHeavier(s, t)) {
                return GREATER;
            }
            return (order == PATHS ? paths.areLastAlike : s.isSamePart(0, t, 0)) ? ALIKE : APART;
        }

        int stand(int order, Term s, Term t) {
            if (!told.isOrderGood(order)) {
                return APART;
            }
            int oneWay = oneWay(order, s, t);
            if (oneWay != APART) {
                return oneWay;
            }
            return oneWay(order, t, s) == GREATER ? LESS : APART;
        }

        /** Goes from TERM to TERM: the first place at which they are not the same decides. */
        private boolean isHeavier(Term s, Term t) {
            int i = 0;
            int j = 0;
            for (int level = 0; level < KEPT_SIZE && i < s.size && j < t.size; level++) {
                if (!standsAsOften(s, i, t, j)) {
                    return false;
                }
                int more = weightOf(s, i) - weightOf(t, j);
                int f = s.letter[i];
                int g = t.letter[j];
                if (more != 0) {
                    return more > 0;
                }
                if (f >= SIGNS || g >= SIGNS) {
                    return f < SIGNS;
                }
                if (f != g) {
                    return told.place[f] > told.place[g];
                }
                int kids = Term.kidsBy(told.arity, f);
                int nth = kids == 2 && s.isSamePart(i + 1, t, j + 1) ? 1 : 0;
                if (nth >= kids) {
                    return false;
                }
                i = s.kid(i, nth);
                j = t.kid(j, nth);
            }
            return false;
        }

        private static boolean standsAsOften(Term s, int i, Term t, int j) {
            for (int variable = SIGNS; variable < LETTERS; variable++) {
                if (s.countOf(variable, i, s.endOf(i)) < t.countOf(variable, j, t.endOf(j))) {
                    return false;
                }
            }
            return true;
        }

        private int weightOf(Term term, int place) {
            int sum = 0;
            for (int i = Math.max(place, 0); i < term.endOf(place) && i < term.size; i++) {
                sum += told.weight[Math.min(term.letter[i], SIGNS)];
            }
            return sum;
        }

        /** Finds how the TERMS of all SLOTS stand by an ORDER, for the two methods below. */
        void findStands(int order) {
            boolean isGood = told.isOrderGood(order);
            for (int i = 0; i < SLOTS; i++) {
                below[i] = 0;
                alike[i] = 0;
                for (int j = 0; j < SLOTS && isGood; j++) {
                    if (told.slot[i].size > 0 && told.slot[j].size > 0) {
                        int oneWay = oneWay(order, told.slot[i], told.slot[j]);
                        below[i] |= oneWay == GREATER ? 1 << j : 0;
                        alike[i] |= oneWay == ALIKE ? 1 << j : 0;
                    }
                }
            }
        }

        int standOfHeaps(int one, int other) {
            int ones = told.filledOf(one);
            int others = told.filledOf(other);
            for (int i = 0; i < SLOTS; i++) {
                int out = (ones >> i & 1) != 0 ? alike[i] & others : 0;
                if (out != 0) {
                    ones &= ~(1 << i);
                    others &= ~(out & -out);
                }
            }
            if (ones == 0 && others == 0) {
                return ALIKE;
            }
            if (isMore(ones, others)) {
                return GREATER;
            }
            return isMore(others, ones) ? LESS : APART;
        }

        private boolean isMore(int ones, int others) {
            int covered = 0;
            for (int i = 0; i < SLOTS; i++) {
                covered |= (ones >> i & 1) != 0 ? below[i] : 0;
            }
            return ones != 0 && (others & ~covered) == 0;
        }

        /** Whether GREATER goes no way back, and goes itself where it goes over a third TERM. */
        boolean areStandsSound() {
            for (int i = 0; i < SLOTS; i++) {
                for (int j = 0; j < SLOTS; j++) {
                    boolean isAbove = (below[i] >> j & 1) != 0;
                    if (isAbove && ((below[j] >> i & 1) != 0 || (below[j] & ~below[i]) != 0)) {
                        return false;
                    }
                }
            }
            return true;
        }

        int rulesDown(int order) {
            int rules = 0;
            if (!told.isOrderGood(order)) {
                return rules;
            }
            for (int i = 0; i < told.rules && i < RULES; i++) {
                if (oneWay(order, told.left[i], told.right[i]) == GREATER) {
                    rules |= 1 << i;
                }
            }
            return rules;
        }

        boolean hasBounds() {
            boolean isSo = told.isOrderGood(SUMS);
            for (int i = 0; i < told.rules && i < RULES; i++) {
                isSo = isSo && values.oneWay(told.left[i], told.right[i]) == GREATER;
            }
            return isSo;
        }

        long boundOf(Term term) {
            return values.least(term);
        }

        /** Tells the first two CLOSED TERMS that two ORDERS tell unlike. */
        void tellUnlike(StringBuilder text, int order, int other, int size) {
            findClosed(size);
            for (int j = 1; j < closedCount && j < CLOSED_TERMS; j++) {
                for (int i = 0; i < j; i++) {
                    if (stand(order, closed[i], closed[j]) != stand(other, closed[i], closed[j])) {
                        closed[i].tellTo(text, 0, closed[i].size);
                        text.append(' ');
                        closed[j].tellTo(text, 0, closed[j].size);
                        return;
                    }
                }
            }
            text.append('-');
        }

        /** Counts through all rows of SIGNS of each SIZE, which go by letters so, and keeps the TERMS. */
        private void findClosed(int most) {
            closedCount = 0;
            int rows = 1;
            for (int size = 1; size <= most && size <= CLOSED_SIZE; size++) {
                rows *= SIGNS;
                for (int nth = 0; nth < rows; nth++) {
                    tryClosed(nth, rows);
                }
            }
        }

        private void tryClosed(int nth, int rows) {
            trial.clear();
            for (int unit = rows / SIGNS; unit > 0; unit /= SIGNS) {
                trial.add(nth / unit % SIGNS);
            }
            if (trial.faultBy(told.arity) == NONE && closedCount < closed.length) {
                trial.shape(told.arity);
                closed[closedCount].copyFrom(trial);
                closedCount++;
            }
        }
    }

    /** The PAIRS of all RULES, and their RINGS; a set of PAIRS is a long. */
    static final class Pairs {
        private final Told told;
        private final int[] rule = new int[PAIRS];
        private final int[] place = new int[PAIRS];
        int count;
        /** The SIGNS to which PAIRS lead from each SIGN, itself among them. */
        private final int[] reach = new int[SIGNS];

        Pairs(Told told) {
            this.told = told;
        }

        /** Is called ahead of all other methods, since the RULES change. */
        void find() {
            int defined = told.definedSigns();
            count = 0;
            for (int r = 0; r < told.rules && r < RULES; r++) {
                Term right = told.right[r];
                for (int p = 0; p < right.size && count < PAIRS; p++) {
                    if (!right.isVariable(p) && (defined >> right.letter[p] & 1) != 0) {
                        rule[count] = r;
                        place[count] = p;
                        count++;
                    }
                }
            }
        }

        void tellTo(StringBuilder text, int nth) {
            if (nth >= 0 && nth < count) {
                Term left = told.left[rule[nth]];
                Term right = told.right[rule[nth]];
                left.tellTo(text, 0, left.size);
                text.append('/');
                right.tellTo(text, place[nth], right.endOf(place[nth]));
            }
        }

        void tellRingTo(StringBuilder text, long ring) {
            int length = text.length();
            for (int pair = 0; pair < count; pair++) {
                if (has(ring, pair)) {
                    if (text.length() > length) {
                        text.append(' ');
                    }
                    text.append(pair);
                }
            }
        }

        private static boolean has(long set, int pair) {
            return (set >> pair & 1) != 0;
        }

        private int begin(int pair) {
            return told.left[rule[pair]].letterAt(0);
        }

        private int goal(int pair) {
            return told.right[rule[pair]].letterAt(place[pair]);
        }

        int countRings() {
            long left = (1L << count) - 1;
            int rings = 0;
            for (int i = 0; i < PAIRS; i++) {
                long ring = firstRing(left);
                if (ring == 0) {
                    return rings;
                }
                left &= ~ring;
                rings++;
            }
            return rings;
        }

        /** The RING with a number, 0 without it; to take one RING out leaves the others as they are. */
        long ringAt(int nth) {
            long left = (1L << count) - 1;
            for (int i = 0; i < nth && i < PAIRS; i++) {
                left &= ~firstRing(left);
            }
            return nth < PAIRS ? firstRing(left) : 0;
        }

        /** The RING with the first PAIR, among some PAIRS; 0 without one. */
        private long firstRing(long left) {
            fillReach(left);
            for (int pair = 0; pair < count; pair++) {
                if (has(left, pair) && leads(goal(pair), begin(pair))) {
                    return ringOf(left, pair);
                }
            }
            return 0;
        }

        private long ringOf(long left, int pair) {
            long ring = 0;
            for (int other = 0; other < count; other++) {
                if (has(left, other) && leads(goal(pair), begin(other)) && leads(goal(other), begin(pair))) {
                    ring |= 1L << other;
                }
            }
            return ring;
        }

        private void fillReach(long left) {
            for (int sign = 0; sign < SIGNS; sign++) {
                reach[sign] = 1 << sign;
            }
            for (int pair = 0; pair < count; pair++) {
                int sign = begin(pair);
                if (has(left, pair) && sign >= 0 && sign < SIGNS) {
                    reach[sign] |= 1 << goal(pair);
                }
            }
            for (int over = 0; over < SIGNS; over++) {
                for (int sign = 0; sign < SIGNS; sign++) {
                    if (leads(sign, over)) {
                        reach[sign] |= reach[over];
                    }
                }
            }
        }

        private boolean leads(int from, int to) {
            return from >= 0 && from < SIGNS && (reach[from] >> to & 1) != 0;
        }

        /**
         * Whether a RING ENDS. The first choice that does is as good as any other one: if a RING
         * ENDS, so does each RING of some of its PAIRS, by the same choices.
         */
        boolean isEnding(long ring) {
            long left = ring;
            for (int round = 0; round <= PAIRS; round++) {
                long next = firstRing(left);
                if (next == 0) {
                    return true;
                }
                long out = goingDown(next);
                if (out == 0) {
                    return false;
                }
                left &= ~out;
            }
            return false;
        }

        /** The PAIRS of a RING that are out by the first choice that does; 0 without one. */
        private long goingDown(long ring) {
            int begins = 0;
            for (int pair = 0; pair < count; pair++) {
                if (has(ring, pair)) {
                    begins |= 1 << begin(pair);
                }
            }
            for (int choice = 0; choice < CHOICES; choice++) {
                long out = canBe(choice, begins) ? outBy(ring, choice) : 0;
                if (out != 0) {
                    return out;
                }
            }
            return 0;
        }

        /** A choice is the set of the SIGNS of which the place 1 is taken. */
        private boolean canBe(int choice, int begins) {
            for (int sign = 0; sign < SIGNS; sign++) {
                int nth = choice >> sign & 1;
                int places = (begins >> sign & 1) != 0 ? told.arity[sign] : 1;
                if (nth >= places) {
                    return false;
                }
            }
            return true;
        }

        private long outBy(long ring, int choice) {
            long out = 0;
            for (int pair = 0; pair < count; pair++) {
                if (has(ring, pair)) {
                    int down = downOf(pair, choice);
                    if (down == NONE) {
                        return 0;
                    }
                    if (down > 0) {
                        out |= 1L << pair;
                    }
                }
            }
            return out;
        }

        /** How far behind the one TERM's place the other one is a PART of it; NONE if it is none. */
        private int downOf(int pair, int choice) {
            Term left = told.left[rule[pair]];
            Term right = told.right[rule[pair]];
            int whole = left.kid(0, choice >> begin(pair) & 1);
            int small = right.kid(place[pair], choice >> goal(pair) & 1);
            int end = left.endOf(whole);
            for (int i = whole; i < end; i++) {
                if (left.isSamePart(i, right, small)) {
                    return i - whole;
                }
            }
            return NONE;
        }
    }

    /** STEPS, and rows of them. */
    static final class Walks {
        private final Told told;
        /** Where the TERM of each VARIABLE begins, by the last match. */
        private final int[] from = new int[VARIABLES];
        private final Term[] met = new Term[STEP_TERMS];
        private int metCount;
        private final long[] next = new long[STEP_TERMS];
        private final int[] far = new int[STEP_TERMS];
        private final Term made = new Term(STEP_SIZE);
        private final Term again = new Term(STEP_SIZE);

        Walks(Told told) {
            this.told = told;
            for (int i = 0; i < met.length; i++) {
                met[i] = new Term(STEP_SIZE);
            }
        }

        /** Whether the PART at a place is an INSTANCE of a TERM. */
        private boolean matches(Term pattern, Term term, int place) {
            if (!pattern.isVariable(0) && pattern.letterAt(0) != term.letterAt(place)) {
                return false;
            }
            Arrays.fill(from, NONE);
            int at = place;
            for (int i = 0; i < pattern.size; i++) {
                if (at < 0 || at >= term.size) {
                    return false;
                }
                int letter = pattern.letter[i];
                if (letter < SIGNS) {
                    if (term.letter[at] != letter) {
                        return false;
                    }
                    at++;
                } else {
                    int variable = letter - SIGNS;
                    if (from[variable] == NONE) {
                        from[variable] = at;
                    } else if (!term.isSamePart(from[variable], term, at)) {
                        return false;
                    }
                    at = term.end[at];
                }
            }
            return true;
        }

        /** The SIZE of what the STEP that has just matched makes. */
        private int sizeAfter(Term term, int place, int rule) {
            Term right = told.right[rule];
            int size = term.size - (term.endOf(place) - place);
            for (int i = 0; i < right.size; i++) {
                int start = startOf(right.letter[i]);
                size += start == NONE ? 1 : term.endOf(start) - start;
            }
            return size;
        }

        /** Where what is put in for a letter begins; NONE for a SIGN. */
        private int startOf(int letter) {
            return letter >= SIGNS && letter < LETTERS ? from[letter - SIGNS] : NONE;
        }

        /** Takes the STEP that has just matched. */
        private void take(Term term, int place, int rule, Term into) {
            Term right = told.right[rule];
            into.clear();
            into.addPart(term, 0, place);
            for (int i = 0; i < right.size; i++) {
                int start = startOf(right.letter[i]);
                if (start == NONE) {
                    into.add(right.letter[i]);
                } else {
                    into.addPart(term, start, term.endOf(start));
                }
            }
            into.addPart(term, term.endOf(place), term.size);
            into.shape(told.arity);
        }

        /** Finds the REDUCT with a number; no letters without it. */
        void findReduct(Term term, int nth, Term into) {
            into.clear();
            int ahead = nth;
            for (int place = 0; place < term.size; place++) {
                for (int rule = 0; rule < told.rules && rule < RULES; rule++) {
                    if (matches(told.left[rule], term, place)) {
                        if (ahead == 0) {
                            take(term, place, rule, into);
                            return;
                        }
                        ahead--;
                    }
                }
            }
        }

        int longestFrom(Term first) {
            met[0].copyFrom(first);
            metCount = 1;
            for (int i = 0; i < metCount && i < STEP_TERMS; i++) {
                if (!meetReducts(i)) {
                    return MANY;
                }
            }
            return farthest();
        }

        /** Notes to which TERMS one leads; false if they are too many or too long. */
        private boolean meetReducts(int one) {
            Term term = met[one];
            next[one] = 0;
            for (int place = 0; place < term.size; place++) {
                for (int rule = 0; rule < told.rules && rule < RULES; rule++) {
                    if (!matches(told.left[rule], term, place)) {
                        continue;
                    }
                    if (sizeAfter(term, place, rule) > STEP_SIZE) {
                        return false;
                    }
                    take(term, place, rule, made);
                    int which = meet();
                    if (which == NONE) {
                        return false;
                    }
                    next[one] |= 1L << which;
                }
            }
            return true;
        }

        private int meet() {
            for (int i = 0; i < metCount; i++) {
                if (met[i].isSamePart(0, made, 0)) {
                    return i;
                }
            }
            if (metCount >= STEP_TERMS) {
                return NONE;
            }
            met[metCount].copyFrom(made);
            metCount++;
            return metCount - 1;
        }

        /** A TERM is known when all it leads to are; one that comes again never is, nor is the first one then. */
        private int farthest() {
            long known = 0;
            for (int round = 0; round < metCount && (known & 1) == 0; round++) {
                for (int i = metCount - 1; i >= 0; i--) {
                    if ((next[i] & ~known) == 0 && (known >> i & 1) == 0) {
                        far[i] = farFrom(next[i]);
                        known |= 1L << i;
                    }
                }
            }
            return (known & 1) != 0 ? far[0] : MANY;
        }

        private int farFrom(long nexts) {
            int most = 0;
            for (int i = 0; i < metCount; i++) {
                if ((nexts >> i & 1) != 0) {
                    most = Math.max(most, far[i] + 1);
                }
            }
            return most;
        }

        int firstLoop(int most) {
            for (int first = 0; first < told.rules && first < RULES; first++) {
                Term left = told.left[first];
                for (int place = 0; place < left.size; place++) {
                    for (int rule = 0; rule < told.rules && rule < RULES; rule++) {
                        if (goes(left, place, rule, made)
                                && (hasInstance(made, left) || most > 1 && loopsNext(left))) {
                            return first;
                        }
                    }
                }
            }
            return NONE;
        }

        private boolean loopsNext(Term left) {
            for (int place = 0; place < made.size; place++) {
                for (int rule = 0; rule < told.rules && rule < RULES; rule++) {
                    if (goes(made, place, rule, again) && hasInstance(again, left)) {
                        return true;
                    }
                }
            }
            return false;
        }

        /** Takes a STEP, if there is one and what it makes is not too long. */
        private boolean goes(Term term, int place, int rule, Term into) {
            if (!matches(told.left[rule], term, place) || sizeAfter(term, place, rule) > STEP_SIZE) {
                return false;
            }
            take(term, place, rule, into);
            return true;
        }

        private boolean hasInstance(Term term, Term pattern) {
            for (int place = 0; place < term.size; place++) {
                if (matches(pattern, term, place)) {
                    return true;
                }
            }
            return false;
        }
    }

    /**
     * A NUMBER as a row of marks. The first unlike mark of two NUMBERS decides as the
     * first unlike POWER does, since OPEN, one POWER more, is above each how often.
     */
    static final class Powers {
        final int[] mark;
        int size;

        Powers(int most) {
            mark = new int[Math.max(most, 0)];
        }

        void clear() {
            size = 0;
        }

        void add(int one) {
            if (size < mark.length) {
                mark[size] = one;
                size++;
            }
        }

        void addPart(Powers other, int from, int to) {
            int length = Math.min(Math.min(to, other.size) - from, mark.length - size);
            if (from >= 0 && length > 0) {
                System.arraycopy(other.mark, from, mark, size, length);
                size += length;
            }
        }

        void copyFrom(Powers other) {
            int length = Math.min(other.size, mark.length);
            System.arraycopy(other.mark, 0, mark, 0, length);
            size = length;
        }

        int span() {
            return size / 2;
        }

        int markAt(int at) {
            return at >= 0 && at < size ? mark[at] : 0;
        }

        int mostOften() {
            int most = 0;
            for (int i = 0; i < size; i++) {
                if (mark[i] != OPEN) {
                    most = Math.max(most, mark[i]);
                }
            }
            return most;
        }

        /** The place behind the POWER that begins at a place. */
        int behind(int at) {
            int open = 0;
            for (int i = Math.max(at, 0); i < size; i++) {
                open += mark[i] == OPEN ? 1 : -1;
                if (open == 0) {
                    return i + 1;
                }
            }
            return size;
        }

        /** Where the lowest POWER of those from a place up to another one begins. */
        int lowest(int from, int to) {
            int open = 0;
            for (int i = Math.min(to, size) - 1; i >= from && i >= 0; i--) {
                open += mark[i] == OPEN ? -1 : 1;
                if (open == 0) {
                    return i;
                }
            }
            return from;
        }

        int against(Powers other) {
            return againstPart(0, size, other, 0, other.size);
        }

        /** How the NUMBER of some marks stands to that of some marks of another one. */
        int againstPart(int from, int to, Powers other, int otherFrom, int otherTo) {
            int length = to - from;
            int otherLength = otherTo - otherFrom;
            for (int k = 0; k < length && k < otherLength; k++) {
                int unlike = Integer.compare(markAt(from + k), other.markAt(otherFrom + k));
                if (unlike != 0) {
                    return unlike;
                }
            }
            return Integer.compare(length, otherLength);
        }

        void tellTo(StringBuilder text) {
            if (size == 0) {
                text.append('0');
            }
            for (int i = 0; i < size; i++) {
                if (mark[i] != OPEN) {
                    text.append(')');
                    tellOften(text, mark[i]);
                    continue;
                }
                if (i > 0 && mark[i - 1] != OPEN) {
                    text.append('+');
                }
                if (markAt(i + 1) != OPEN) {
                    text.append(markAt(i + 1));
                    i++;
                } else if (markAt(i + 2) == 1 && markAt(i + 3) != OPEN) {
                    text.append('w');
                    tellOften(text, markAt(i + 3));
                    i += 3;
                } else {
                    text.append("w^(");
                }
            }
        }

        private static void tellOften(StringBuilder text, int often) {
            if (often > 1) {
                text.append('*');
                text.append(often);
            }
        }
    }

    /** Makes NUMBERS; each one is told in the same row, and stands till the next one is made. */
    static final class Reckoner {
        private final Powers out = new Powers(MARKS_ROOM);
        private final Powers player = new Powers(MARKS_MOST);

        Powers whole(int number) {
            out.clear();
            if (number > 0) {
                out.add(OPEN);
                out.add(number);
            }
            return out;
        }

        Powers powerOf(Powers height) {
            out.clear();
            out.add(OPEN);
            out.addPart(height, 0, height.size);
            out.add(1);
            return out;
        }

        Powers made(int how, Powers one, Powers other) {
            out.clear();
            if (how == 0) {
                addSum(one, 0, one.size, other, 0, other.size);
            } else if (how == 1) {
                addJoined(one, other);
            } else {
                addProduct(one, other);
            }
            return out;
        }

        private void addSum(Powers one, int from, int to, Powers other, int otherFrom, int otherTo) {
            if (otherFrom >= otherTo) {
                out.addPart(one, from, to);
                return;
            }
            int top = other.behind(otherFrom) - 1;
            int i = from;
            for (int n = 0; n < SPAN_MOST && i < to; n++) {
                int last = one.behind(i) - 1;
                int unlike = one.againstPart(i + 1, last, other, otherFrom + 1, top);
                if (unlike < 0) {
                    break;
                }
                out.addPart(one, i, last);
                if (unlike == 0) {
                    out.add(one.markAt(last) + other.markAt(top));
                    out.addPart(other, top + 1, otherTo);
                    return;
                }
                out.add(one.markAt(last));
                i = last + 1;
            }
            out.addPart(other, otherFrom, otherTo);
        }

        private void addJoined(Powers one, Powers other) {
            int i = 0;
            int j = 0;
            for (int n = 0; n < MARKS_MOST && (i < one.size || j < other.size); n++) {
                int behindI = one.behind(i);
                int behindJ = other.behind(j);
                int unlike = one.againstPart(i, behindI - 1, other, j, behindJ - 1);
                if (unlike >= 0) {
                    out.addPart(one, i, behindI - 1);
                    out.add(one.markAt(behindI - 1) + (unlike == 0 ? other.markAt(behindJ - 1) : 0));
                    i = behindI;
                }
                if (unlike < 0) {
                    out.addPart(other, j, behindJ);
                }
                j = unlike <= 0 ? behindJ : j;
            }
        }

        private void addProduct(Powers one, Powers other) {
            if (one.size == 0) {
                return;
            }
            int top = one.behind(0) - 1;
            int j = 0;
            for (int n = 0; n < SPAN_MOST && j < other.size; n++) {
                int last = other.behind(j) - 1;
                int often = other.markAt(last);
                if (j + 1 == last) {
                    out.addPart(one, 0, top);
                    out.add(one.markAt(top) * often);
                    out.addPart(one, top + 1, one.size);
                } else {
                    out.add(OPEN);
                    addSum(one, 1, top, other, j + 1, last);
                    out.add(often);
                }
                j = last + 1;
            }
        }

        /** What a NUMBER above 0 FALLS to: from height to height, as long as its lowest POWER has one itself. */
        Powers fallen(Powers number, int n) {
            out.clear();
            int from = 0;
            int to = number.size;
            int open = 0;
            for (int level = 0; level < MARKS_MOST && from < to; level++) {
                int low = number.lowest(from, to);
                int often = number.markAt(to - 1);
                out.addPart(number, from, low);
                if (often > 1) {
                    out.addPart(number, low, to - 1);
                    out.add(often - 1);
                }
                from = low + 1;
                to--;
                if (from < to && number.lowest(from, to) == to - 2) {
                    addLower(number, from, to, n);
                    break;
                }
                if (from < to) {
                    out.add(OPEN);
                    open++;
                }
            }
            for (int i = 0; i < open; i++) {
                out.add(1);
            }
            return out;
        }

        /** n times the POWER of a height once less, the lowest POWER of which has the height 0. */
        private void addLower(Powers number, int from, int to, int n) {
            int often = number.markAt(to - 1);
            if (n > 0) {
                out.add(OPEN);
                out.addPart(number, from, to - 2);
                if (often > 1) {
                    out.add(OPEN);
                    out.add(often - 1);
                }
                out.add(n);
            }
        }

        int fallsOf(Powers number, int n, int more) {
            player.copyFrom(number);
            int said = n;
            for (int falls = 0; falls <= FALLS_MOST; falls++) {
                if (player.size == 0) {
                    return falls;
                }
                fallen(player, said);
                if (out.span() > SPAN_MOST) {
                    return MANY;
                }
                player.copyFrom(out);
                said += more;
            }
            return MANY;
        }
    }
}
