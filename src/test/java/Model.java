import java.math.BigInteger;
import java.util.ArrayDeque;
import java.util.ArrayList;
import java.util.Arrays;
import java.util.Collections;
import java.util.Deque;
import java.util.HashMap;
import java.util.LinkedHashMap;
import java.util.LinkedHashSet;
import java.util.List;
import java.util.Map;
import java.util.NoSuchElementException;
import java.util.Set;
import java.util.TreeMap;

/** The document once more, as plainly as its words go: texts for terms, trees for numbers, no thought of speed. */
final class Model {
    private static final String LETTERS = "abcdexyz";

    /** A NUMBER: its POWERS, each a height and how often. */
    static final class Num {
        final List<Num> heights = new ArrayList<>();
        final List<Integer> often = new ArrayList<>();

        static Num whole(int n) {
            Num made = new Num();
            if (n > 0) {
                made.add(new Num(), n);
            }
            return made;
        }

        void add(Num height, int times) {
            heights.add(height);
            often.add(times);
        }

        int count() {
            return heights.size();
        }

        boolean isZero() {
            return heights.isEmpty();
        }

        Num part(int from, int to) {
            Num made = new Num();
            for (int i = from; i < to; i++) {
                made.add(heights.get(i), often.get(i));
            }
            return made;
        }

        int span() {
            int span = count();
            for (Num height : heights) {
                span += height.span();
            }
            return span;
        }

        int mostOften() {
            int most = 0;
            for (int i = 0; i < count(); i++) {
                most = Math.max(most, Math.max(often.get(i), heights.get(i).mostOften()));
            }
            return most;
        }

        int against(Num other) {
            for (int i = 0; i < count() && i < other.count(); i++) {
                int unlike = heights.get(i).against(other.heights.get(i));
                if (unlike == 0) {
                    unlike = Integer.compare(often.get(i), other.often.get(i));
                }
                if (unlike != 0) {
                    return unlike;
                }
            }
            return Integer.compare(count(), other.count());
        }

        String tell() {
            if (isZero()) {
                return "0";
            }
            List<String> told = new ArrayList<>();
            for (int i = 0; i < count(); i++) {
                Num height = heights.get(i);
                int times = often.get(i);
                if (height.isZero()) {
                    told.add("" + times);
                } else {
                    String power = height.against(whole(1)) == 0 ? "w" : "w^(" + height.tell() + ")";
                    told.add(times > 1 ? power + "*" + times : power);
                }
            }
            return String.join("+", told);
        }

        Num sum(Num other) {
            if (other.isZero()) {
                return this;
            }
            Num made = new Num();
            Num top = other.heights.get(0);
            int more = 0;
            for (int i = 0; i < count(); i++) {
                int unlike = heights.get(i).against(top);
                if (unlike > 0) {
                    made.add(heights.get(i), often.get(i));
                } else if (unlike == 0) {
                    more = often.get(i);
                }
            }
            made.add(top, other.often.get(0) + more);
            for (int i = 1; i < other.count(); i++) {
                made.add(other.heights.get(i), other.often.get(i));
            }
            return made;
        }

        Num joined(Num other) {
            List<Num> all = new ArrayList<>(heights);
            all.addAll(other.heights);
            all.sort((a, b) -> b.against(a));
            Num made = new Num();
            for (Num height : all) {
                if (made.count() > 0 && made.heights.get(made.count() - 1).against(height) == 0) {
                    continue;
                }
                made.add(height, timesOf(height) + other.timesOf(height));
            }
            return made;
        }

        private int timesOf(Num height) {
            for (int i = 0; i < count(); i++) {
                if (heights.get(i).against(height) == 0) {
                    return often.get(i);
                }
            }
            return 0;
        }

        Num product(Num other) {
            Num made = new Num();
            if (isZero() || other.isZero()) {
                return made;
            }
            for (int i = 0; i < other.count(); i++) {
                Num next = new Num();
                if (other.heights.get(i).isZero()) {
                    next.add(heights.get(0), often.get(0) * other.often.get(i));
                    for (int j = 1; j < count(); j++) {
                        next.add(heights.get(j), often.get(j));
                    }
                } else {
                    next.add(heights.get(0).sum(other.heights.get(i)), other.often.get(i));
                }
                made = made.sum(next);
            }
            return made;
        }

        Num fall(int n) {
            int last = count() - 1;
            Num height = heights.get(last);
            Num made = part(0, last);
            if (often.get(last) > 1) {
                made.add(height, often.get(last) - 1);
            }
            if (height.isZero()) {
                return made;
            }
            if (height.heights.get(height.count() - 1).isZero()) {
                int lowest = height.count() - 1;
                Num less = height.part(0, lowest);
                if (height.often.get(lowest) > 1) {
                    less.add(new Num(), height.often.get(lowest) - 1);
                }
                if (n > 0) {
                    made.add(less, n);
                }
            } else {
                made.add(height.fall(n), 1);
            }
            return made;
        }
    }

    private int[] arity = {0, 1, 2, 0, 1};
    private String typed = "";
    private String[] slot = {"", "", "", "", "", ""};
    private List<String[]> rules = new ArrayList<>();
    private String row = "abcde";
    private int[] way = new int[5];
    private int[] weight = {1, 1, 1, 1, 1, 1};
    private int[][] sums = {{1, 1, 1, 0}, {1, 1, 1, 0}, {1, 1, 1, 0}, {1, 1, 1, 0}, {1, 1, 1, 0}};
    private int base = 0;
    private Num[] cells = {new Num(), new Num(), new Num(), new Num(), new Num(), new Num()};
    private Deque<Model> steps = new ArrayDeque<>();
    private int knocks = 0;
    private final Map<String, Boolean> paths = new HashMap<>();

    private void remember() {
        Model copy = new Model();
        copy.arity = arity.clone();
        copy.typed = typed;
        copy.slot = slot.clone();
        copy.rules = new ArrayList<>(rules);
        copy.row = row;
        copy.way = way.clone();
        copy.weight = weight.clone();
        copy.sums = new int[][] {sums[0].clone(), sums[1].clone(), sums[2].clone(), sums[3].clone(), sums[4].clone()};
        copy.base = base;
        copy.cells = cells.clone();
        steps.addLast(copy);
        if (steps.size() > 8) {
            steps.removeFirst();
        }
        paths.clear();
    }

    int undo() {
        if (steps.isEmpty()) {
            throw new NoSuchElementException();
        }
        Model copy = steps.removeLast();
        arity = copy.arity;
        typed = copy.typed;
        slot = copy.slot;
        rules = copy.rules;
        row = copy.row;
        way = copy.way;
        weight = copy.weight;
        sums = copy.sums;
        base = copy.base;
        cells = copy.cells;
        paths.clear();
        return steps.size();
    }

    // ---- what must be so

    private static void index(boolean isSo) {
        if (!isSo) {
            throw new IndexOutOfBoundsException();
        }
    }

    private static void argument(boolean isSo) {
        if (!isSo) {
            throw new IllegalArgumentException();
        }
    }

    private static void element(boolean isSo) {
        if (!isSo) {
            throw new NoSuchElementException();
        }
    }

    private static void state(boolean isSo) {
        if (!isSo) {
            throw new IllegalStateException();
        }
    }

    private static boolean isIn(int value, int least, int most) {
        return least <= value && value <= most;
    }

    // ---- terms as texts

    private static boolean isVariable(char letter) {
        return "xyz".indexOf(letter) >= 0;
    }

    private int arityOf(char letter) {
        return isVariable(letter) ? 0 : arity[letter - 'a'];
    }

    /** The place behind the TERM that begins at a place, or more than the length if it ends too early. */
    private int behind(String letters, int place) {
        if (place >= letters.length()) {
            return letters.length() + 1;
        }
        int at = place + 1;
        for (int i = 0; i < arityOf(letters.charAt(place)); i++) {
            at = behind(letters, at);
        }
        return at;
    }

    private String partAt(String term, int place) {
        return term.substring(place, behind(term, place));
    }

    private List<String> kids(String term) {
        List<String> kids = new ArrayList<>();
        int at = 1;
        for (int i = 0; i < arityOf(term.charAt(0)); i++) {
            kids.add(partAt(term, at));
            at = behind(term, at);
        }
        return kids;
    }

    private static String replaced(String term, Map<Character, String> by) {
        StringBuilder made = new StringBuilder();
        for (char letter : term.toCharArray()) {
            made.append(by.getOrDefault(letter, "" + letter));
        }
        return made.toString();
    }

    /** What is to be put in to make one TERM of another one; null if it is no INSTANCE. */
    private Map<Character, String> match(String pattern, String term) {
        Map<Character, String> by = new HashMap<>();
        return match(pattern, term, by) ? by : null;
    }

    private boolean match(String pattern, String term, Map<Character, String> by) {
        char first = pattern.charAt(0);
        if (isVariable(first)) {
            String before = by.putIfAbsent(first, term);
            return before == null || before.equals(term);
        }
        if (term.charAt(0) != first) {
            return false;
        }
        for (int i = 0; i < kids(pattern).size(); i++) {
            if (!match(kids(pattern).get(i), kids(term).get(i), by)) {
                return false;
            }
        }
        return true;
    }

    private List<String> reducts(String term) {
        List<String> made = new ArrayList<>();
        for (int place = 0; place < term.length(); place++) {
            for (String[] rule : rules) {
                Map<Character, String> by = match(rule[0], partAt(term, place));
                if (by != null) {
                    made.add(term.substring(0, place) + replaced(rule[1], by) + term.substring(behind(term, place)));
                }
            }
        }
        return made;
    }

    // ---- what is told

    int arity(int sign, int to) {
        index(isIn(sign, 0, 4));
        argument(isIn(to, 0, 2));
        StringBuilder all = new StringBuilder(String.join("", slot));
        for (String[] rule : rules) {
            all.append(rule[0]).append(rule[1]);
        }
        state(all.indexOf("" + LETTERS.charAt(sign)) < 0);
        remember();
        int before = arity[sign];
        arity[sign] = to;
        return before;
    }

    int say(int a, int b, int c, int d, int e, int f) {
        String letters = typed;
        int[] said = {a, b, c, d, e, f};
        for (int one : said) {
            argument(isIn(one, -1, 9));
        }
        for (int one : said) {
            if (isIn(one, 0, 7)) {
                letters += LETTERS.charAt(one);
            } else if (one == 8 && !letters.isEmpty()) {
                letters = letters.substring(0, letters.length() - 1);
            } else if (one == 9) {
                letters = "";
            }
            state(letters.length() <= 12);
        }
        remember();
        typed = letters;
        return typed.length();
    }

    int keep(int to) {
        index(isIn(to, 0, 5));
        if (fault() != -1) {
            return -2 - fault();
        }
        remember();
        slot[to] = typed;
        return typed.length();
    }

    int put(int from, int variable, int by, int to) {
        index(isIn(from, 0, 5) && isIn(by, 0, 5) && isIn(to, 0, 5));
        argument(isIn(variable, 5, 7));
        element(!slot[from].isEmpty() && !slot[by].isEmpty());
        String made = slot[from].replace("" + LETTERS.charAt(variable), slot[by]);
        state(made.length() <= 12);
        remember();
        slot[to] = made;
        return made.length();
    }

    int cut(int from, int place, int to) {
        index(isIn(from, 0, 5) && isIn(to, 0, 5) && isIn(place, 0, slot[from].length() - 1));
        remember();
        slot[to] = partAt(slot[from], place);
        return slot[to].length();
    }

    int rule(int left, int right) {
        index(isIn(left, 0, 5) && isIn(right, 0, 5));
        element(!slot[left].isEmpty() && !slot[right].isEmpty());
        argument(!isVariable(slot[left].charAt(0)));
        for (char letter : slot[right].toCharArray()) {
            argument(!isVariable(letter) || slot[left].indexOf(letter) >= 0);
        }
        state(rules.size() < 5);
        remember();
        rules.add(new String[] {slot[left], slot[right]});
        return rules.size() - 1;
    }

    int unrule() {
        element(!rules.isEmpty());
        remember();
        rules.remove(rules.size() - 1);
        return rules.size();
    }

    int rank(int sign, int place) {
        index(isIn(sign, 0, 4) && isIn(place, 0, 4));
        remember();
        char letter = LETTERS.charAt(sign);
        int before = row.indexOf(letter);
        String others = row.replace("" + letter, "");
        row = others.substring(0, place) + letter + others.substring(place);
        return before;
    }

    int way(int sign, int to) {
        index(isIn(sign, 0, 4));
        argument(isIn(to, 0, 2));
        remember();
        int before = way[sign];
        way[sign] = to;
        return before;
    }

    int weight(int sign, int to) {
        index(isIn(sign, 0, 5));
        argument(isIn(to, 0, 9) && !(to == 0 && sign == 5));
        remember();
        int before = weight[sign];
        weight[sign] = to;
        return before;
    }

    int sum(int sign, int k, int p, int q, int r) {
        index(isIn(sign, 0, 4));
        argument(isIn(k, 0, 9) && isIn(p, 0, 9) && isIn(q, 0, 9) && isIn(r, 0, 9));
        remember();
        int before = sums[sign][0];
        sums[sign] = new int[] {k, p, q, r};
        return before;
    }

    int base(int to) {
        argument(isIn(to, 0, 3));
        remember();
        int before = base;
        base = to;
        return before;
    }

    int number(int cell, int number) {
        index(isIn(cell, 0, 5));
        argument(isIn(number, 0, 99));
        remember();
        Num before = cells[cell];
        cells[cell] = Num.whole(number);
        return before.against(cells[cell]) == 0 ? 0 : 1;
    }

    private int keepNumber(int cell, Num made) {
        state(made.span() <= 40 && made.mostOften() <= 9999);
        remember();
        cells[cell] = made;
        return made.span();
    }

    int power(int cell, int height) {
        index(isIn(cell, 0, 5) && isIn(height, 0, 5));
        Num made = new Num();
        made.add(cells[height], 1);
        return keepNumber(cell, made);
    }

    int make(int cell, int how, int one, int other) {
        index(isIn(cell, 0, 5) && isIn(one, 0, 5) && isIn(other, 0, 5));
        argument(isIn(how, 0, 2));
        Num first = cells[one];
        Num second = cells[other];
        return keepNumber(cell, how == 0 ? first.sum(second) : how == 1 ? first.joined(second) : first.product(second));
    }

    int fall(int cell, int n) {
        index(isIn(cell, 0, 5));
        argument(isIn(n, 0, 9));
        element(!cells[cell].isZero());
        return keepNumber(cell, cells[cell].fall(n));
    }

    int knock() {
        return ++knocks;
    }

    // ---- what is asked of terms

    String term(int of) {
        index(isIn(of, 0, 5));
        return slot[of];
    }

    String part(int of, int place) {
        index(isIn(of, 0, 5) && isIn(place, 0, slot[of].length() - 1));
        return partAt(slot[of], place);
    }

    String typed() {
        return typed;
    }

    int fault() {
        int end = behind(typed, 0);
        return end > typed.length() ? typed.length() : end < typed.length() ? end : -1;
    }

    String side(int rule, boolean isLeft) {
        index(isIn(rule, 0, rules.size() - 1));
        return rules.get(rule)[isLeft ? 0 : 1];
    }

    // ---- orders

    private interface Relation {
        boolean holds(String s, String t);
    }

    /** What is left in two HEAPS when pairs of ALIKE ones are out, the second one's behind the first one's. */
    private static List<List<String>> leftOf(List<String> ones, List<String> others, Relation alike) {
        List<String> left = new ArrayList<>(ones);
        List<String> leftOther = new ArrayList<>(others);
        boolean isOut = true;
        while (isOut) {
            isOut = false;
            for (int i = 0; i < left.size() && !isOut; i++) {
                for (int j = 0; j < leftOther.size() && !isOut; j++) {
                    if (alike.holds(left.get(i), leftOther.get(j))) {
                        left.remove(i);
                        leftOther.remove(j);
                        isOut = true;
                    }
                }
            }
        }
        return List.of(left, leftOther);
    }

    private static boolean isMore(List<String> ones, List<String> others, Relation greater) {
        for (String other : others) {
            boolean isCovered = false;
            for (String one : ones) {
                isCovered |= greater.holds(one, other);
            }
            if (!isCovered) {
                return false;
            }
        }
        return !ones.isEmpty();
    }

    private boolean pathAlike(String s, String t) {
        if (s.charAt(0) != t.charAt(0)) {
            return false;
        }
        List<String> ones = kids(s);
        List<String> others = kids(t);
        boolean isPlaceByPlace = true;
        for (int i = 0; i < ones.size(); i++) {
            isPlaceByPlace &= pathAlike(ones.get(i), others.get(i));
        }
        if (isPlaceByPlace || isVariable(s.charAt(0)) || way[s.charAt(0) - 'a'] != 1) {
            return isPlaceByPlace;
        }
        Collections.reverse(others);
        boolean isOtherWay = true;
        for (int i = 0; i < ones.size(); i++) {
            isOtherWay &= pathAlike(ones.get(i), others.get(i));
        }
        return isOtherWay;
    }

    private boolean pathGreater(String s, String t, String by) {
        String key = by + " " + s + " " + t;
        Boolean known = paths.get(key);
        if (known == null) {
            known = pathGreaterNew(s, t, by);
            paths.put(key, known);
        }
        return known;
    }

    private boolean pathGreaterNew(String s, String t, String by) {
        char f = s.charAt(0);
        char g = t.charAt(0);
        if (isVariable(g)) {
            return s.indexOf(g) >= 0 && !s.equals(t);
        }
        if (isVariable(f)) {
            return false;
        }
        for (String kid : kids(s)) {
            if (pathGreater(kid, t, by) || pathAlike(kid, t)) {
                return true;
            }
        }
        for (String kid : kids(t)) {
            if (!pathGreater(s, kid, by)) {
                return false;
            }
        }
        if (f != g) {
            return by.indexOf(f) > by.indexOf(g);
        }
        List<String> ones = kids(s);
        List<String> others = kids(t);
        if (way[f - 'a'] == 1) {
            List<List<String>> left = leftOf(ones, others, this::pathAlike);
            return isMore(left.get(0), left.get(1), (a, b) -> pathGreater(a, b, by));
        }
        if (way[f - 'a'] == 2) {
            Collections.reverse(ones);
            Collections.reverse(others);
        }
        for (int i = 0; i < ones.size(); i++) {
            if (!pathAlike(ones.get(i), others.get(i))) {
                return pathGreater(ones.get(i), others.get(i), by);
            }
        }
        return false;
    }

    private static int count(String term, char letter) {
        return (int) term.chars().filter(c -> c == letter).count();
    }

    private int weightOf(String term) {
        int sum = 0;
        for (char letter : term.toCharArray()) {
            sum += isVariable(letter) ? weight[5] : weight[letter - 'a'];
        }
        return sum;
    }

    private boolean weightGreater(String s, String t) {
        for (char variable : "xyz".toCharArray()) {
            if (count(s, variable) < count(t, variable)) {
                return false;
            }
        }
        if (weightOf(s) != weightOf(t)) {
            return weightOf(s) > weightOf(t);
        }
        char f = s.charAt(0);
        char g = t.charAt(0);
        if (isVariable(g)) {
            return !isVariable(f);
        }
        if (isVariable(f)) {
            return false;
        }
        if (f != g) {
            return row.indexOf(f) > row.indexOf(g);
        }
        for (int i = 0; i < kids(s).size(); i++) {
            if (!kids(s).get(i).equals(kids(t).get(i))) {
                return weightGreater(kids(s).get(i), kids(t).get(i));
            }
        }
        return false;
    }

    /** A sum of products: for each product (its own numbers in a row, rising) how often. */
    private Map<String, BigInteger> value(String term) {
        Map<String, BigInteger> made = new TreeMap<>();
        char first = term.charAt(0);
        if (isVariable(first)) {
            made.put("", BigInteger.valueOf(base));
            made.put("" + first, BigInteger.ONE);
            return made;
        }
        int[] by = sums[first - 'a'];
        List<String> kids = kids(term);
        Map<String, BigInteger> u = kids.size() > 0 ? value(kids.get(0)) : Map.of();
        Map<String, BigInteger> v = kids.size() > 1 ? value(kids.get(1)) : Map.of();
        made.merge("", BigInteger.valueOf(by[0]), BigInteger::add);
        u.forEach((product, often) -> made.merge(product, often.multiply(BigInteger.valueOf(by[1])), BigInteger::add));
        v.forEach((product, often) -> made.merge(product, often.multiply(BigInteger.valueOf(by[2])), BigInteger::add));
        u.forEach((one, often) -> v.forEach((other, times) -> {
            char[] letters = (one + other).toCharArray();
            Arrays.sort(letters);
            made.merge(new String(letters), often.multiply(times).multiply(BigInteger.valueOf(by[3])), BigInteger::add);
        }));
        return made;
    }

    private Map<String, BigInteger> lessOf(String s, String t) {
        Map<String, BigInteger> made = value(s);
        value(t).forEach((product, often) -> made.merge(product, often.negate(), BigInteger::add));
        return made;
    }

    private boolean sumGreater(String s, String t) {
        boolean isGreater = true;
        for (Map.Entry<String, BigInteger> one : lessOf(s, t).entrySet()) {
            isGreater &= one.getValue().signum() >= (one.getKey().isEmpty() ? 1 : 0);
        }
        return isGreater;
    }

    private boolean alike(int order, String s, String t) {
        if (!isGood(order)) {
            return false;
        }
        if (order == 2) {
            return lessOf(s, t).values().stream().allMatch(often -> often.signum() == 0);
        }
        return order == 0 ? pathAlike(s, t) : s.equals(t);
    }

    private boolean greater(int order, String s, String t) {
        if (!isGood(order)) {
            return false;
        }
        return order == 0 ? pathGreater(s, t, row) : order == 1 ? weightGreater(s, t) : sumGreater(s, t);
    }

    private int stand(int order, String s, String t) {
        return greater(order, s, t) ? 1 : greater(order, t, s) ? -1 : alike(order, s, t) ? 0 : 2;
    }

    int compare(int order, int one, int other) {
        index(isIn(one, 0, 5) && isIn(other, 0, 5));
        argument(isIn(order, 0, 2));
        element(!slot[one].isEmpty() && !slot[other].isEmpty());
        return stand(order, slot[one], slot[other]);
    }

    int heaps(int order, int one, int other) {
        argument(isIn(order, 0, 2) && isIn(one, 0, 63) && isIn(other, 0, 63));
        List<List<String>> left = leftOf(heap(one), heap(other), (a, b) -> alike(order, a, b));
        if (left.get(0).isEmpty() && left.get(1).isEmpty()) {
            return 0;
        }
        Relation greater = (a, b) -> greater(order, a, b);
        return isMore(left.get(0), left.get(1), greater) ? 1 : isMore(left.get(1), left.get(0), greater) ? -1 : 2;
    }

    private List<String> heap(int set) {
        List<String> heap = new ArrayList<>();
        for (int i = 0; i < 6; i++) {
            if ((set >> i & 1) == 1 && !slot[i].isEmpty()) {
                heap.add(slot[i]);
            }
        }
        return heap;
    }

    int down(int order) {
        argument(isIn(order, 0, 2));
        int set = 0;
        for (int i = 0; i < rules.size(); i++) {
            set |= greater(order, rules.get(i)[0], rules.get(i)[1]) ? 1 << i : 0;
        }
        return set;
    }

    boolean isGood(int order) {
        argument(isIn(order, 0, 2));
        for (int sign = 0; sign < 5; sign++) {
            if (order == 1 && arity[sign] == 0 && weight[sign] < weight[5]) {
                return false;
            }
            if (order == 1 && arity[sign] == 1 && weight[sign] == 0 && row.indexOf('a' + sign) != 4) {
                return false;
            }
            if (order == 2 && arity[sign] == 0 && sums[sign][0] < base) {
                return false;
            }
            if (order == 2 && (arity[sign] >= 1 && sums[sign][1] < 1 || arity[sign] == 2 && sums[sign][2] < 1)) {
                return false;
            }
        }
        return true;
    }

    private static List<String> rows(String signs) {
        if (signs.isEmpty()) {
            return List.of("");
        }
        List<String> made = new ArrayList<>();
        for (char first : signs.toCharArray()) {
            for (String rest : rows(signs.replace("" + first, ""))) {
                made.add(first + rest);
            }
        }
        return made;
    }

    private String rowFor(int set) {
        for (String by : rows("abcde")) {
            boolean isDown = true;
            for (int i = 0; i < rules.size() && isDown; i++) {
                isDown = (set >> i & 1) == 0 || pathGreater(rules.get(i)[0], rules.get(i)[1], by);
            }
            if (isDown) {
                return by;
            }
        }
        return "-";
    }

    String row() {
        return rowFor(31);
    }

    int stuck() {
        int best = 0;
        if (!row().equals("-")) {
            return best;
        }
        for (int set = 1; set < 1 << rules.size(); set++) {
            if ((best == 0 || Integer.bitCount(set) < Integer.bitCount(best)) && rowFor(set).equals("-")) {
                best = set;
            }
        }
        return best;
    }

    String differ(int order, int other, int size) {
        argument(isIn(order, 0, 2) && isIn(other, 0, 2) && isIn(size, 1, 3));
        List<String> closed = new ArrayList<>();
        List<String> rows = List.of("");
        for (int i = 0; i < size; i++) {
            List<String> longer = new ArrayList<>();
            for (String before : rows) {
                for (char letter : "abcde".toCharArray()) {
                    longer.add(before + letter);
                }
            }
            rows = longer;
            for (String letters : rows) {
                if (behind(letters, 0) == letters.length()) {
                    closed.add(letters);
                }
            }
        }
        for (int j = 0; j < closed.size(); j++) {
            for (int i = 0; i < j; i++) {
                if (stand(order, closed.get(i), closed.get(j)) != stand(other, closed.get(i), closed.get(j))) {
                    return closed.get(i) + " " + closed.get(j);
                }
            }
        }
        return "-";
    }

    // ---- pairs and steps

    private String defined() {
        StringBuilder made = new StringBuilder();
        for (String[] rule : rules) {
            made.append(rule[0].charAt(0));
        }
        return made.toString();
    }

    private List<String[]> pairs() {
        List<String[]> made = new ArrayList<>();
        for (String[] rule : rules) {
            for (int place = 0; place < rule[1].length(); place++) {
                if (defined().indexOf(rule[1].charAt(place)) >= 0) {
                    made.add(new String[] {rule[0], partAt(rule[1], place)});
                }
            }
        }
        return made;
    }

    /** The PAIRS that one leads to, perhaps over others, all out of a set. */
    private Set<Integer> reached(List<String[]> pairs, Set<Integer> set, int from) {
        Set<Integer> reached = new LinkedHashSet<>();
        Deque<Integer> open = new ArrayDeque<>(List.of(from));
        while (!open.isEmpty()) {
            int one = open.pop();
            for (int other : set) {
                if (pairs.get(one)[1].charAt(0) == pairs.get(other)[0].charAt(0) && reached.add(other)) {
                    open.push(other);
                }
            }
        }
        return reached;
    }

    private List<Set<Integer>> rings(List<String[]> pairs, Set<Integer> set) {
        List<Set<Integer>> rings = new ArrayList<>();
        Set<Integer> taken = new LinkedHashSet<>();
        for (int one : set) {
            if (taken.contains(one) || !reached(pairs, set, one).contains(one)) {
                continue;
            }
            Set<Integer> ring = new LinkedHashSet<>();
            for (int other : set) {
                if (reached(pairs, set, one).contains(other) && reached(pairs, set, other).contains(one)) {
                    ring.add(other);
                }
            }
            taken.addAll(ring);
            rings.add(ring);
        }
        return rings;
    }

    private List<Set<Integer>> rings() {
        Set<Integer> all = new LinkedHashSet<>();
        for (int i = 0; i < pairs().size(); i++) {
            all.add(i);
        }
        return rings(pairs(), all);
    }

    private boolean isPart(String term, String whole) {
        for (int place = 0; place < whole.length(); place++) {
            if (partAt(whole, place).equals(term)) {
                return true;
            }
        }
        return false;
    }

    private boolean ringEnds(List<String[]> pairs, Set<Integer> ring) {
        for (int choice = 0; choice < 32; choice++) {
            if (endsBy(pairs, ring, choice)) {
                return true;
            }
        }
        return false;
    }

    private boolean endsBy(List<String[]> pairs, Set<Integer> ring, int choice) {
        Set<Integer> left = new LinkedHashSet<>();
        for (int one : ring) {
            List<String> first = kids(pairs.get(one)[0]);
            List<String> second = kids(pairs.get(one)[1]);
            int place = choice >> pairs.get(one)[0].charAt(0) - 'a' & 1;
            int otherPlace = choice >> pairs.get(one)[1].charAt(0) - 'a' & 1;
            if (place >= first.size() || otherPlace >= second.size()) {
                return false;
            }
            if (!isPart(second.get(otherPlace), first.get(place))) {
                return false;
            }
            if (second.get(otherPlace).equals(first.get(place))) {
                left.add(one);
            }
        }
        if (left.size() == ring.size()) {
            return false;
        }
        for (Set<Integer> rest : rings(pairs, left)) {
            if (!ringEnds(pairs, rest)) {
                return false;
            }
        }
        return true;
    }

    String pair(int nth) {
        argument(nth >= 0);
        return nth < pairs().size() ? pairs().get(nth)[0] + "/" + pairs().get(nth)[1] : "";
    }

    String ring(int nth) {
        argument(nth >= 0);
        if (nth >= rings().size()) {
            return "";
        }
        List<String> told = new ArrayList<>();
        rings().get(nth).forEach(pair -> told.add("" + pair));
        return String.join(" ", told);
    }

    boolean ends(int nth) {
        argument(nth >= 0);
        return nth >= rings().size() || ringEnds(pairs(), rings().get(nth));
    }

    String reduct(int of, int nth) {
        index(isIn(of, 0, 5));
        argument(nth >= 0);
        element(!slot[of].isEmpty());
        List<String> made = reducts(slot[of]);
        return nth < made.size() ? made.get(nth) : "";
    }

    int longest(int of) {
        index(isIn(of, 0, 5));
        element(!slot[of].isEmpty());
        Map<String, List<String>> next = new LinkedHashMap<>();
        Deque<String> open = new ArrayDeque<>(List.of(slot[of]));
        while (!open.isEmpty()) {
            String term = open.pop();
            if (next.containsKey(term)) {
                continue;
            }
            next.put(term, reducts(term));
            if (term.length() > 40 || next.size() > 40) {
                return -5;
            }
            open.addAll(next.get(term));
        }
        return longest(slot[of], next, new ArrayDeque<>(), new HashMap<>());
    }

    private int longest(String term, Map<String, List<String>> next, Deque<String> way, Map<String, Integer> known) {
        if (way.contains(term)) {
            return -5;
        }
        if (known.containsKey(term)) {
            return known.get(term);
        }
        way.push(term);
        int most = 0;
        for (String one : next.get(term)) {
            int rest = longest(one, next, way, known);
            if (rest == -5) {
                return -5;
            }
            most = Math.max(most, rest + 1);
        }
        way.pop();
        known.put(term, most);
        return most;
    }

    String bound(int of) {
        index(isIn(of, 0, 5));
        element(!slot[of].isEmpty());
        return isGood(2) && down(2) == (1 << rules.size()) - 1 ? value(slot[of]).get("").toString() : "-";
    }

    int loop(int most) {
        argument(isIn(most, 1, 2));
        for (int i = 0; i < rules.size(); i++) {
            Set<String> now = new LinkedHashSet<>(Set.of(rules.get(i)[0]));
            for (int n = 1; n <= most; n++) {
                Set<String> then = new LinkedHashSet<>();
                for (String term : now) {
                    for (String made : reducts(term)) {
                        if (made.length() <= 40) {
                            then.add(made);
                        }
                    }
                }
                now = then;
                for (String term : now) {
                    for (int place = 0; place < term.length(); place++) {
                        if (match(rules.get(i)[0], partAt(term, place)) != null) {
                            return i;
                        }
                    }
                }
            }
        }
        return -1;
    }

    // ---- numbers

    String tell(int cell) {
        index(isIn(cell, 0, 5));
        return cells[cell].tell();
    }

    int hold(int one, int other) {
        index(isIn(one, 0, 5) && isIn(other, 0, 5));
        return cells[one].against(cells[other]);
    }

    int game(int cell, int n, int more) {
        index(isIn(cell, 0, 5));
        argument(isIn(n, 0, 9) && isIn(more, 0, 3));
        Num now = cells[cell];
        int falls = 0;
        while (!now.isZero()) {
            now = now.fall(n + falls * more);
            falls++;
            if (falls > 300 || now.span() > 40) {
                return -5;
            }
        }
        return falls;
    }

    // ---- all

    int ofSign(int sign, int what) {
        index(isIn(sign, 0, 4));
        argument(isIn(what, 0, 8));
        char letter = LETTERS.charAt(sign);
        int isDefined = defined().indexOf(letter) >= 0 ? 1 : 0;
        int[] all = {arity[sign], row.indexOf(letter), way[sign], weight[sign],
            sums[sign][0], sums[sign][1], sums[sign][2], sums[sign][3], isDefined};
        return all[what];
    }

    int house(int what) {
        argument(isIn(what, 0, 8));
        int[] all = {heap(63).size(), rules.size(), pairs().size(), rings().size(), typed.length(),
            weight[5], base, steps.size(), knocks};
        return all[what];
    }

    boolean isSound() {
        for (int order = 0; order < 3; order++) {
            for (String s : heap(63)) {
                for (String t : heap(63)) {
                    if (greater(order, s, t) && greater(order, t, s)) {
                        return false;
                    }
                    for (String r : heap(63)) {
                        if (greater(order, s, t) && greater(order, t, r) && !greater(order, s, r)) {
                            return false;
                        }
                    }
                }
            }
        }
        int stuck = stuck();
        for (int i = 0; i < rules.size(); i++) {
            if ((stuck >> i & 1) == 1 && rowFor(stuck & ~(1 << i)).equals("-")) {
                return false;
            }
        }
        for (int i = 0; i < 6; i++) {
            if (!slot[i].isEmpty() && !bound(i).equals("-")
                    && new BigInteger(bound(i)).compareTo(BigInteger.valueOf(longest(i))) < 0) {
                return false;
            }
        }
        for (int order = 0; order < 3; order++) {
            if (loop(1) != -1 && down(order) == (1 << rules.size()) - 1) {
                return false;
            }
        }
        for (Num cell : cells) {
            if (!cell.isZero() && cell.against(cell.fall(2)) <= 0) {
                return false;
            }
        }
        return true;
    }

    long digest() {
        List<Long> told = new ArrayList<>();
        for (int what = 0; what <= 8; what++) {
            told.add((long) house(what));
        }
        for (int sign = 0; sign < 5; sign++) {
            for (int what = 0; what <= 8; what++) {
                told.add((long) ofSign(sign, what));
            }
        }
        for (int i = 0; i < 6; i++) {
            told.add((long) term(i).length());
        }
        for (int i = 0; i < rules.size(); i++) {
            told.add((long) side(i, true).length());
            told.add((long) side(i, false).length());
        }
        for (int order = 0; order < 3; order++) {
            told.add((long) down(order));
            told.add(isGood(order) ? 1L : 0L);
            if (!slot[0].isEmpty() && !slot[1].isEmpty()) {
                told.add((long) compare(order, 0, 1));
            }
            told.add((long) heaps(order, 7, 56));
        }
        told.add((long) row().length());
        told.add((long) stuck());
        for (int i = 0; i < pairs().size(); i++) {
            told.add((long) pair(i).length());
        }
        for (int i = 0; i < rings().size(); i++) {
            told.add((long) ring(i).length());
            told.add(ends(i) ? 1L : 0L);
        }
        for (int i = 0; i < 6; i++) {
            if (!slot[i].isEmpty()) {
                told.add((long) longest(i));
                told.add((long) bound(i).length());
            }
        }
        told.add((long) loop(2));
        for (int i = 0; i < 6; i++) {
            told.add((long) tell(i).length());
            told.add((long) hold(i, 0));
        }
        told.add((long) fault());
        told.add(isSound() ? 1L : 0L);
        long d = 6163;
        for (long v : told) {
            d = d * 31 + v;
        }
        return d;
    }
}
