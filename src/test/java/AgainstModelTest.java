import java.lang.reflect.InvocationTargetException;
import java.lang.reflect.Method;
import java.util.ArrayList;
import java.util.Arrays;
import java.util.HashMap;
import java.util.List;
import java.util.Map;
import java.util.Random;

/** Runs of calls, drawn from fixed seeds, that Downhill and the plain Model must answer alike. */
public final class AgainstModelTest {
    private static final int RUNS = 2000;
    private static final Map<String, Method> OURS = methodsOf(Downhill.class);
    private static final Map<String, Method> MODELS = methodsOf(Model.class);

    /** What the arguments of each call are drawn from: a kind a letter. */
    private static final String[] TOLD = {
        "arity sa", "say llllll", "keep S", "put SvSS", "cut SpS", "rule SS", "unrule", "rank sr", "way sa",
        "weight Ww", "sum swwww", "base b", "number Cn", "power CC", "make CaCC", "fall Cw", "undo", "knock"};
    private static final String[] ASKED = {
        "term S", "part Sp", "typed", "fault", "side uB", "compare oSS", "heaps ohh", "down o", "isGood o", "row",
        "stuck", "differ oob", "pair m", "ring b", "ends b", "reduct Sm", "longest S", "bound S", "loop b", "tell C",
        "hold CC", "game Cwb", "ofSign sf", "house f", "isSound", "digest"};

    /** Rules that are known for one thing or another, with the arities at first. */
    private static final String[] KNOWN = {
        "cax>x cbxy>bcxy", "cax>bx cbxa>cxba cbxby>cxcbxy", "ccxyz>cxcyz", "cxy>cyx", "bbx>ebx ebx>bex",
        "bex>ebx ebx>bex", "bbx>bx", "bx>bbx", "bx>cxx cxx>x", "ex>bex", "cxbd>d bd>bd", "cxx>cxbx", "cbxby>cxy cxy>cyx",
        "a>d d>a", "a>ba", "bax>a", "cxd>cxa cxa>bx", "cbxy>cxby cxby>ey", "cexy>cxey cxey>cyx", "ecxy>ceyex eex>x",
        "cxy>x cxy>y", "ca>a", "bbbx>bbx ebx>beex", "ccxyz>cxcyz ebx>bex cex>x", "cxcyz>ccxyz", "bebx>ebeb"};

    private static final String[] OF_NUMBERS = {
        "number Cn", "number Cb", "power CC", "power CC", "make CaCC", "make CaCC", "make CaCC", "fall Cw", "fall Cw",
        "tell C", "tell C", "hold CC", "game Cwb", "game Cbb", "undo", "isSound"};
    private static final String[] OF_ORDERS = {
        "compare oSS", "compare oSS", "heaps ohh", "down o", "row", "stuck", "differ oob", "isSound", "way sa", "rank sr",
        "weight Ww", "sum sbbbb", "base b", "isGood o"};
    private static final String[] OF_STEPS = {
        "longest S", "longest S", "bound S", "reduct Sm", "loop b", "ring b", "ends b", "pair m", "put SvSS", "cut SpS"};

    private final Random random;
    private final Downhill ours = new Downhill();
    private final Model model = new Model();
    private final int[] arities = {0, 1, 2, 0, 1};
    private final List<String> told = new ArrayList<>();
    private int calls;

    private AgainstModelTest(long seed) {
        random = new Random(seed);
    }

    private static Map<String, Method> methodsOf(Class<?> type) {
        Map<String, Method> methods = new HashMap<>();
        for (Method method : type.getDeclaredMethods()) {
            if (!java.lang.reflect.Modifier.isPrivate(method.getModifiers()) && !method.isSynthetic()) {
                method.setAccessible(true);
                methods.put(method.getName(), method);
            }
        }
        return methods;
    }

    public static void main(String[] args) {
        int runs = args.length > 0 ? Integer.parseInt(args[0]) : RUNS;
        int first = args.length > 1 ? Integer.parseInt(args[1]) : 0;
        int wrong = 0;
        Map<String, Integer> answers = new java.util.TreeMap<>();
        for (int seed = first; seed < first + runs && wrong < 5; seed++) {
            AgainstModelTest test = new AgainstModelTest(seed);
            String fault = test.run(answers);
            if (fault != null) {
                wrong++;
                System.out.println("seed " + seed + ": " + fault);
            }
        }
        if (args.length > 2) {
            answers.forEach((answer, times) -> System.out.println(answer + ": " + times));
        }
        System.out.println(wrong == 0 ? runs + " runs are as the model's" : wrong + " runs are not as the model's");
        if (wrong != 0) {
            System.exit(1);
        }
    }

    private String run(Map<String, Integer> answers) {
        try {
            begin();
            int most = random.nextInt(4) == 0 ? 400 : 60;
            String[][] kinds = {OF_NUMBERS, OF_ORDERS, OF_STEPS, null, null, null};
            String[] kind = kinds[random.nextInt(kinds.length)];
            while (calls < most) {
                if (kind != null && random.nextInt(10) > 0) {
                    answers.merge(draw(kind[random.nextInt(kind.length)]), 1, Integer::sum);
                } else if (random.nextInt(4) == 0) {
                    keepTerm(random.nextInt(6), 1 + random.nextInt(random.nextInt(12) + 1), "xyz");
                } else if (random.nextInt(8) == 0) {
                    addRule();
                } else if (random.nextInt(3) == 0) {
                    draw(TOLD[random.nextInt(TOLD.length)]);
                } else {
                    String answer = draw(ASKED[random.nextInt(ASKED.length)]);
                    answers.merge(answer, 1, Integer::sum);
                }
            }
            for (String asked : ASKED) {
                draw(asked);
            }
            return null;
        } catch (AssertionError e) {
            return e.getMessage() + " after " + String.join("; ", told);
        }
    }

    private void begin() {
        if (random.nextInt(3) > 0) {
            for (int sign = 0; sign < 5; sign++) {
                arities[sign] = random.nextInt(3);
                call("arity", sign, arities[sign]);
            }
            addRule();
            addRule();
        } else {
            for (String rule : KNOWN[random.nextInt(KNOWN.length)].split(" ")) {
                String[] sides = rule.split(">");
                type(sides[0]);
                call("keep", 0);
                type(sides[1]);
                call("keep", 1);
                call("rule", 0, 1);
            }
        }
        for (int sign = 0; sign < 5; sign++) {
            if (random.nextInt(2) == 0) {
                call("sum", sign, random.nextInt(4), 1 + random.nextInt(2), 1 + random.nextInt(2), random.nextInt(2));
            }
            if (random.nextInt(3) == 0) {
                call("way", sign, random.nextInt(3));
            }
            call("rank", sign, random.nextInt(5));
        }
    }

    private void addRule() {
        int left = random.nextInt(6);
        int right = random.nextInt(6);
        String variables = keepTerm(left, 2 + random.nextInt(5), "xyz");
        keepTerm(right, 1 + random.nextInt(6), variables);
        call("rule", left, right);
    }

    private String keepTerm(int slot, int size, String variables) {
        String term = drawTerm(size, variables);
        type(term);
        call("keep", slot);
        return term.replaceAll("[a-e]", "");
    }

    /** A TERM near to a SIZE, if the arities have one; otherwise letters that may be none. */
    private String drawTerm(int size, String variables) {
        StringBuilder made = new StringBuilder();
        int open = 1;
        while (open > 0 && made.length() < 12) {
            int sign = random.nextInt(5);
            boolean isLast = made.length() + open >= size;
            if (isLast && arities[sign] > 0 && !variables.isEmpty() && random.nextInt(8) > 0) {
                made.append(variables.charAt(random.nextInt(variables.length())));
                open--;
            } else if (!isLast || arities[sign] == 0 || random.nextInt(4) == 0) {
                made.append("abcde".charAt(sign));
                open += arities[sign] - 1;
            } else if (variables.isEmpty() && random.nextInt(20) == 0) {
                break;
            }
        }
        return made.toString();
    }

    private void type(String letters) {
        call("say", 9, -1, -1, -1, -1, -1);
        for (int from = 0; from < letters.length(); from += 6) {
            int[] said = {-1, -1, -1, -1, -1, -1};
            for (int i = 0; i < 6 && from + i < letters.length(); i++) {
                said[i] = "abcdexyz".indexOf(letters.charAt(from + i));
            }
            call("say", said[0], said[1], said[2], said[3], said[4], said[5]);
        }
    }

    private String draw(String form) {
        String[] parts = form.split(" ");
        Object[] args = new Object[parts.length > 1 ? parts[1].length() : 0];
        for (int i = 0; i < args.length; i++) {
            args[i] = drawOne(parts[1].charAt(i));
        }
        return call(parts[0], args);
    }

    private Object drawOne(char kind) {
        if (kind == 'B') {
            return random.nextBoolean();
        }
        if (random.nextInt(60) == 0) {
            int[] odd = {-1, -2, 7, 64, 1000, Integer.MAX_VALUE, Integer.MIN_VALUE};
            return odd[random.nextInt(odd.length)];
        }
        switch (kind) {
            case 's':
                return random.nextInt(5);
            case 'S':
            case 'C':
            case 'W':
                return random.nextInt(6);
            case 'l':
                return random.nextInt(11) - 1;
            case 'v':
                return 5 + random.nextInt(3);
            case 'p':
                return random.nextInt(6);
            case 'n':
                return random.nextInt(4) == 0 ? random.nextInt(100) : random.nextInt(4);
            case 'w':
                return random.nextInt(10);
            case 'h':
                return random.nextInt(64);
            case 'f':
                return random.nextInt(9);
            case 'm':
                return random.nextInt(random.nextInt(12) + 1);
            case 'b':
                return random.nextInt(4);
            case 'r':
            case 'u':
                return random.nextInt(5);
            default:
                return random.nextInt(3);
        }
    }

    private String call(String name, Object... args) {
        if (calls >= 512) {
            return "";
        }
        calls++;
        String ourAnswer = answer(OURS.get(name), ours, args);
        String modelAnswer = answer(MODELS.get(name), model, args);
        String text = name + Arrays.toString(args);
        told.add(text + "=" + ourAnswer);
        if (!ourAnswer.equals(modelAnswer)) {
            throw new AssertionError(text + " answered " + ourAnswer + ", due is " + modelAnswer);
        }
        return name + " " + (ourAnswer.length() > 12 ? "long" : ourAnswer);
    }

    private static String answer(Method method, Object on, Object[] args) {
        try {
            return "" + method.invoke(on, args);
        } catch (InvocationTargetException e) {
            return e.getCause().getClass().getName();
        } catch (IllegalAccessException e) {
            throw new IllegalStateException(e);
        }
    }
}
