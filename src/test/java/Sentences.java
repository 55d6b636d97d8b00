import java.io.IOException;
import java.nio.file.Files;
import java.nio.file.Path;
import java.util.ArrayList;
import java.util.List;
import java.util.Map;
import java.util.TreeMap;

/**
 * Checks that stand behind the words of the document which they are about. At the end each sentence
 * of the sections, and each line of the promises that says more than a kind, must have had such words.
 */
final class Sentences {
    interface Maker {
        Downhill hill();
    }

    interface Asked {
        Object of(Downhill hill);
    }

    interface Valued {
        Object of(Downhill hill, int value);
    }

    static final int LEAST = Integer.MIN_VALUE;
    static final int MOST = Integer.MAX_VALUE;

    private final Check check = new Check();
    /** The lines of the document by their headings: 1 to 45 the promises, 100 to 106 the sections. */
    private final Map<Integer, List<String>> lines = new TreeMap<>();
    private final Map<Integer, List<String>> quoted = new TreeMap<>();
    private String now = "";

    Sentences() throws IOException {
        int heading = -1;
        for (String line : Files.readAllLines(Path.of("../shared/DOC.md"))) {
            if (line.startsWith("## Promise ")) {
                heading = Integer.parseInt(line.substring(11, line.indexOf(':')));
            } else if (line.startsWith("== ")) {
                heading = 100 + line.charAt(3) - '0';
            } else if (line.startsWith("## ")) {
                heading = line.equals("## Description") ? 100 : -1;
            } else {
                lines.computeIfAbsent(heading, key -> new ArrayList<>()).add(line.trim());
            }
        }
    }

    /** The checks behind this are about these words of a promise. */
    void promise(int number, String words) {
        quote(number, "promise " + number, words);
    }

    /** The checks behind this are about these words of a section of the description (0 for those ahead of all). */
    void section(int number, String words) {
        quote(100 + number, "section " + number, words);
    }

    private void quote(int heading, String where, String words) {
        now = where + ", \"" + words + "\"";
        quoted.computeIfAbsent(heading, key -> new ArrayList<>()).add(words);
        check.is(now + " stands in the document", textUnder(heading).contains(words), true);
    }

    private String textUnder(int heading) {
        return String.join(" ", lines.getOrDefault(heading, List.of())).replaceAll("\\s+", " ");
    }

    void is(Object got, Object due) {
        check.is(now, got, due);
    }

    void is(String what, Object got, Object due) {
        check.is(now + ": " + what, got, due);
    }

    /** The call is refused, and behind it the hill answers, and goes back, as a twin does that was not called. */
    void refused(Maker maker, Class<?> due, Asked call) {
        refused("", maker, due, call);
    }

    void refused(String what, Maker maker, Class<?> due, Asked call) {
        Downhill hill = maker.hill();
        Downhill twin = maker.hill();
        is(what, answer(hill, call), due.getName());
        is(what + " leaves", all(hill), all(twin));
        for (int steps = twin.house(7); steps > 0; steps--) {
            is(what + " leaves the step back " + steps, hill.undo(), twin.undo());
            is(what + " goes back " + steps, some(hill), some(twin));
        }
        is(what + " at first", all(hill), all(twin));
        is(what + " goes on", goneOn(hill), goneOn(twin));
    }

    /** What the next calls answer. */
    private static String goneOn(Downhill hill) {
        StringBuilder answers = new StringBuilder();
        Asked[] calls = {it -> it.say(8, 7, -1, -1, -1, -1), Downhill::typed, it -> it.keep(0), it -> it.cut(0, 0, 1),
            it -> it.rule(0, 0), it -> it.number(0, 2), it -> it.fall(1, 1), it -> it.make(1, 1, 0, 1), Downhill::undo,
            Downhill::knock};
        for (Asked call : calls) {
            answers.append(answer(hill, call)).append(' ');
        }
        return answers.toString();
    }

    static String answer(Downhill hill, Asked call) {
        try {
            return "" + call.of(hill);
        } catch (RuntimeException e) {
            return e.getClass().getName();
        }
    }

    /** The call takes each value from the least to the greatest one, and none beyond, at both ends. */
    void takes(Maker maker, int least, int most, Class<?> due, Valued call) {
        for (int value = least; value <= most; value++) {
            int told = value;
            String got = answer(maker.hill(), hill -> call.of(hill, told));
            is("takes " + value + ", answered " + got, got.contains("Exception"), false);
        }
        for (int value : new int[] {least - 1, most + 1, LEAST, MOST}) {
            refused("takes no " + value, maker, due, hill -> call.of(hill, value));
        }
    }

    /** The call takes each value from 0 on. */
    void takesAllFromZero(Maker maker, Valued call) {
        for (int value : new int[] {0, 1, 2, 59, 60, 61, 63, 64, 65, 1 << 30, MOST - 1, MOST}) {
            String got = answer(maker.hill(), hill -> call.of(hill, value));
            is("takes " + value + ", answered " + got, got.contains("Exception"), false);
        }
        for (int value : new int[] {-1, -2, LEAST}) {
            refused("takes no " + value, maker, Check.ARGUMENT, hill -> call.of(hill, value));
        }
    }

    /** What is told, by some 25 calls. */
    static String some(Downhill hill) {
        StringBuilder some = new StringBuilder(hill.typed());
        for (int i = 0; i < 6; i++) {
            some.append(' ').append(hill.term(i)).append(' ').append(hill.tell(i));
        }
        int rules = hill.house(1);
        for (int rule = 0; rule < rules; rule++) {
            some.append(' ').append(hill.side(rule, true)).append('>').append(hill.side(rule, false));
        }
        return some.toString();
    }

    /** All that is told, by some 80 calls. */
    static String told(Downhill hill) {
        StringBuilder told = new StringBuilder(some(hill)).append(' ');
        for (int what = 0; what <= 8; what++) {
            told.append(what == 7 ? "" : hill.house(what)).append(' ');
        }
        for (int sign = 0; sign < 5; sign++) {
            for (int what = 0; what <= 8; what++) {
                told.append(hill.ofSign(sign, what));
            }
        }
        return told.toString();
    }

    /** The same, how many STEPS BACK there are, and what is asked most of. */
    static String all(Downhill hill) {
        return told(hill) + " " + hill.house(7) + " " + hill.digest();
    }

    void end(String name, int[] sections, int[] promises) {
        for (int section : sections) {
            for (String sentence : textUnder(100 + section).split("(?<=\\.|\\.\\)) ")) {
                boolean isMoreThanAName = sentence.split(" ").length > 2;
                if (isMoreThanAName) {
                    mustBeQuoted(100 + section, sentence);
                }
            }
        }
        for (int promise : promises) {
            for (String line : lines.getOrDefault(promise, List.of())) {
                if (saysMore(line)) {
                    mustBeQuoted(promise, line);
                }
            }
        }
        check.end(name);
    }

    /** Neither a signature nor a heading, nor an argument of which the line tells but the kind. */
    private static boolean saysMore(String line) {
        if (line.startsWith("- ")) {
            return line.matches(".*[0-9,].*");
        }
        boolean isAnswer = line.startsWith("Returns ") || line.startsWith("Throws ");
        return isAnswer || !line.startsWith("`") && !line.startsWith("----") && line.split(" ").length > 3;
    }

    private void mustBeQuoted(int heading, String sentence) {
        boolean isQuoted = false;
        for (String words : quoted.getOrDefault(heading, List.of())) {
            isQuoted |= sentence.contains(words);
        }
        check.is("a test under " + heading + " is about: " + sentence, isQuoted, true);
    }
}
