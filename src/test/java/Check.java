import java.util.ArrayList;
import java.util.List;

/** Counts the answers that are not due, and makes hills with little writing. */
final class Check {
    interface Call {
        Object answer();
    }

    static final Class<?> INDEX = IndexOutOfBoundsException.class;
    static final Class<?> ARGUMENT = IllegalArgumentException.class;
    static final Class<?> STATE = IllegalStateException.class;
    static final Class<?> ELEMENT = java.util.NoSuchElementException.class;

    private int wrong;
    private int asked;

    void is(String what, Object got, Object due) {
        asked++;
        if (!got.equals(due)) {
            wrong++;
            System.out.println(what + ": answered " + got + ", due is " + due);
        }
    }

    /** The call must throw that very class (none below it, as the machine's own are) and change nothing. */
    void refused(String what, Downhill hill, Class<?> due, Call call) {
        long before = hill.digest();
        String got;
        try {
            got = "" + call.answer();
        } catch (RuntimeException e) {
            got = e.getClass().getName();
        }
        is(what, got, due.getName());
        is(what + ", what it leaves", hill.digest(), before);
    }

    void end(String name) {
        System.out.println(name + ": " + asked + " answers, " + wrong + " not as due");
        if (wrong != 0) {
            System.exit(1);
        }
    }

    /** A new hill with these TERMS in the SLOTS from 0 on; "" leaves one out. */
    static Downhill hill(String... terms) {
        Downhill hill = new Downhill();
        for (int slot = 0; slot < terms.length; slot++) {
            keep(hill, slot, terms[slot]);
        }
        return hill;
    }

    /** A new hill with these RULES ("bx>x"), which stand in the SLOTS 4 and 5 last. */
    static Downhill ruled(String... rules) {
        Downhill hill = new Downhill();
        for (String rule : rules) {
            rule(hill, rule);
        }
        return hill;
    }

    static int rule(Downhill hill, String rule) {
        String[] sides = rule.split(">");
        keep(hill, 4, sides[0]);
        keep(hill, 5, sides[1]);
        return hill.rule(4, 5);
    }

    static void keep(Downhill hill, int slot, String term) {
        if (!term.isEmpty()) {
            type(hill, term);
            int size = hill.keep(slot);
            if (size != term.length()) {
                throw new IllegalStateException(term + " is no term: " + size);
            }
        }
    }

    /** Types letters alone, five with the first call and six with each one behind it. */
    static int type(Downhill hill, String letters) {
        int length = -1;
        for (int from = -1; from < letters.length(); from += 6) {
            int[] said = {from < 0 ? 9 : letterAt(letters, from), -1, -1, -1, -1, -1};
            for (int i = 1; i < 6; i++) {
                said[i] = letterAt(letters, from + i);
            }
            length = hill.say(said[0], said[1], said[2], said[3], said[4], said[5]);
        }
        return length;
    }

    private static int letterAt(String letters, int at) {
        return at < letters.length() ? "abcdexyz".indexOf(letters.charAt(at)) : -1;
    }

    /** The checksum once more, from the answers of the face. */
    static long digestOf(Downhill hill) {
        List<Long> v = new ArrayList<>();
        for (int what = 0; what <= 8; what++) {
            v.add((long) hill.house(what));
        }
        for (int sign = 0; sign < 5; sign++) {
            for (int what = 0; what <= 8; what++) {
                v.add((long) hill.ofSign(sign, what));
            }
        }
        for (int slot = 0; slot < 6; slot++) {
            v.add((long) hill.term(slot).length());
        }
        for (int rule = 0; rule < hill.house(1); rule++) {
            v.add((long) hill.side(rule, true).length());
            v.add((long) hill.side(rule, false).length());
        }
        for (int order = 0; order < 3; order++) {
            v.add((long) hill.down(order));
            v.add(hill.isGood(order) ? 1L : 0L);
            if (!hill.term(0).isEmpty() && !hill.term(1).isEmpty()) {
                v.add((long) hill.compare(order, 0, 1));
            }
            v.add((long) hill.heaps(order, 7, 56));
        }
        v.add((long) hill.row().length());
        v.add((long) hill.stuck());
        for (int nth = 0; nth < hill.house(2); nth++) {
            v.add((long) hill.pair(nth).length());
        }
        for (int nth = 0; nth < hill.house(3); nth++) {
            v.add((long) hill.ring(nth).length());
            v.add(hill.ends(nth) ? 1L : 0L);
        }
        for (int slot = 0; slot < 6; slot++) {
            if (!hill.term(slot).isEmpty()) {
                v.add((long) hill.longest(slot));
                v.add((long) hill.bound(slot).length());
            }
        }
        v.add((long) hill.loop(2));
        for (int cell = 0; cell < 6; cell++) {
            v.add((long) hill.tell(cell).length());
            v.add((long) hill.hold(cell, 0));
        }
        v.add((long) hill.fault());
        v.add(hill.isSound() ? 1L : 0L);
        long d = 6163;
        for (long one : v) {
            d = d * 31 + one;
        }
        return d;
    }
}
