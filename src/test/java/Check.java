/** Counts the answers that are not due, and makes hills with little writing. */
final class Check {
    interface Call {
        Object answer();
    }

    static final Class<?> INDEX = IndexOutOfBoundsException.class;
    static final Class<?> ARGUMENT = IllegalArgumentException.class;
    static final Class<?> STATE = IllegalStateException.class;
    static final Class<?> ELEMENT = java.util.NoSuchElementException.class;

    private int wrong;
    private int asked;

    void is(String what, Object got, Object due) {
        asked++;
        if (!got.equals(due)) {
            wrong++;
            System.out.println(what + ": answered " + got + ", due is " + due);
        }
    }

    /** The call must throw that very class (none below it, as the machine's own are) and change nothing. */
    void refused(String what, Downhill hill, Class<?> due, Call call) {
        long before = hill.digest();
        String got;
        try {
            got = "" + call.answer();
        } catch (RuntimeException e) {
            got = e.getClass().getName();
        }
        is(what, got, due.getName());
        is(what + ", what it leaves", hill.digest(), before);
    }

    void end(String name) {
        System.out.println(name + ": " + asked + " answers, " + wrong + " not as due");
        if (wrong != 0) {
            System.exit(1);
        }
    }

    /** A new hill with these TERMS in the SLOTS from 0 on; "" leaves one out. */
    static Downhill hill(String... terms) {
        Downhill hill = new Downhill();
        for (int slot = 0; slot < terms.length; slot++) {
            keep(hill, slot, terms[slot]);
        }
        return hill;
    }

    /** A new hill with these RULES ("bx>x"), which stand in the SLOTS 4 and 5 last. */
    static Downhill ruled(String... rules) {
        Downhill hill = new Downhill();
        for (String rule : rules) {
            rule(hill, rule);
        }
        return hill;
    }

    static int rule(Downhill hill, String rule) {
        String[] sides = rule.split(">");
        keep(hill, 4, sides[0]);
        keep(hill, 5, sides[1]);
        return hill.rule(4, 5);
    }

    static void keep(Downhill hill, int slot, String term) {
        if (!term.isEmpty()) {
            type(hill, term);
            int size = hill.keep(slot);
            if (size != term.length()) {
                throw new IllegalStateException(term + " is no term: " + size);
            }
        }
    }

    static int type(Downhill hill, String letters) {
        int length = hill.say(9, -1, -1, -1, -1, -1);
        for (char letter : letters.toCharArray()) {
            length = hill.say("abcdexyz".indexOf(letter), -1, -1, -1, -1, -1);
        }
        return length;
    }
}
