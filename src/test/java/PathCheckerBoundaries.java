import java.util.ArrayList;
import java.util.List;

/**
 * For each sentence of the document that names a boundary case a test of its own, on both sides of
 * the boundary. Calls are written as texts ("link 0 1 true") and so are answers ("true", "-1",
 * "throws.IllegalStateException"). Behind each refused call everything that other calls can show is
 * compared with what they show of a twin that has had all calls but that one.
 */
public final class PathCheckerBoundaries {
    private static final int MIN = Integer.MIN_VALUE;
    private static final int MAX = Integer.MAX_VALUE;
    private static final int CALL_LIMIT = 512;
    private static final int WRONG_LIMIT = 100;
    /** The neighbours of 0 .. 5, the far ends, and what a shift or a cast takes for a state. */
    private static final int[] NO_STATES = {
        MIN, MIN + 5, -65531, -251, -64, -32, -27, -2, -1, 6, 7, 8, 32, 37, 64, 256, 65536, MAX
    };
    private static final String NO_FORMULA = "throws.IllegalStateException";
    private static final String NOT_READ = "throws.IllegalArgumentException";
    private static final String NO_PLACE = "throws.IndexOutOfBoundsException";
    private static final String NOT_DONE = "throws.UnsupportedOperationException";

    private static String sentence = "";
    private static int sentences = 0;
    private static int wrong = 0;

    public static void main(String[] args) {
        whatItIs();
        termsOfTexts();
        termsOfStructures();
        termsOfForms();
        termsOfLassosAndRows();
        termsOfAllCalls();
        promisesOfTexts();
        promisesOfStructures();
        promisesOfPaths();
        promisesOfRows();
        System.out.println("boundaries: " + sentences + " sentences, "
                + (wrong == 0 ? "all as due" : wrong + " wrong"));
        if (wrong != 0) {
            System.exit(1);
        }
    }

    private static void test(String words, Runnable body) {
        sentence = words;
        sentences++;
        try {
            body.run();
        } catch (RuntimeException e) {
            tellWrong("the test itself", e.toString(), "no exception");
        }
    }

    // What it is

    private static void whatItIs() {
        test("An object is used for at most 512 calls: looks", () -> manyLooks());
        test("An object is used for at most 512 calls: changes", () -> manyChanges());
        test("An object is used for at most 512 calls: formulas", () -> manyTexts());
        test("An object is used for at most 512 calls: rows", () -> manyRows());
        test("An object is used for at most 512 calls: refusals", () -> manyRefused());
    }

    private static void manyLooks() {
        Run x = full();
        String[] calls = {
            "breaking", "keeping", "witness 5 -1", "witness 0 -1", "judge 7 7", "normal 36"
        };
        String[] due = new String[calls.length];
        for (int k = 0; k < calls.length; k++) {
            due[k] = x.make(calls[k]);
        }
        for (int turn = 0; x.hasCallsLeft(1); turn++) {
            x.gives(calls[turn % calls.length], due[turn % calls.length]);
        }
        due("calls", "" + x.calls.size(), "512");
    }

    private static void manyChanges() {
        Run x = new Run("mark 0 1", "link 0 0 true", "link 1 1 true").formula("Gp");
        while (x.hasCallsLeft(6)) {
            x.gives("link 0 1 true", "true");
            x.gives("witness 0 -1", "2");
            x.gives("mark 1 1", "true");
            x.gives("witness 0 -1", "-1");
            x.gives("link 0 1 false", "true");
            x.gives("mark 1 0", "true");
        }
        while (x.hasCallsLeft(1)) {
            x.gives("breaking", "2");
        }
    }

    private static void manyTexts() {
        Run x = new Run();
        while (x.hasCallsLeft(6)) {
            x.gives("type XXXXXp", "true");
            x.gives("formula", "5");
            x.gives("normal -1", "6");
            x.gives("type !q", "true");
            x.gives("formula", "0");
            x.gives("normal -1", "1");
        }
        x.gives("type p", "true");
        x.gives("formula", "0");
        due("calls", "" + x.calls.size(), "512");
    }

    private static void manyRows() {
        Run x = new Run("link 5 5 true").formula("1");
        while (x.hasCallsLeft(10)) {
            for (int count = 1; count <= 8; count++) {
                x.gives("go 5", "" + count);
            }
            x.gives("judge 7 0", "true");
            x.gives("clear", "done");
        }
        while (x.hasCallsLeft(1)) {
            x.gives("judge 0 0", NO_FORMULA);
        }
    }

    private static void manyRefused() {
        Run x = new Run();
        while (x.hasCallsLeft(8)) {
            x.gives("formula", NOT_READ);
            x.gives("keeps 0", NO_FORMULA);
            x.gives("part -1", "false");
            x.gives("go 6", "-1");
            x.gives("link 0 0 false", "false");
        }
        x.gives("type p", "true");
        x.gives("formula", "0");
        x.gives("link 0 0 true", "true");
        x.gives("witness 0 -1", "1");
        x.gives("go 0", "1");
        x.gives("judge 0 0", "false");
    }

    // Terms: the text and the formula

    private static void termsOfTexts() {
        test("THE TEXT has at most 32 characters.", () -> textOf32());
        test("(no blanks)", () -> noBlanks());
        test("p, q, r, s, 1 or 0", () -> textsOfOne());
        test("unit = ! unit or X unit or F unit or G unit", () -> textsOfTwo());
        test("( formula )", () -> textsOfThree());
        test("choice [ > formula ]", () -> repeats('>', "|Aq", "p>q>r", "|A|Br"));
        test("both { | both }", () -> repeats('|', "|pq", "p|q|r", "||pqr"));
        test("line { & line }", () -> repeats('&', "&pq", "p&q&r", "&&pqr"));
        test("unit [ U line ]", () -> repeats('U', "Upq", "pUqUr", "UpUqr"));
        test("unit [ R line ]", () -> repeats('R', "Rpq", "pRqRr", "RpRqr"));
        test("formula, choice, both, line, unit within one another", () -> binding());
        test("several & or | group to the left", () -> groupsToTheLeft());
        test("Its parentheses are at most 6 deep", () -> depthOf6());
        test("at most 6 deep in one another, not in all", () -> manyParentheses());
        test("TIMED operators are X, F, G, U, R.", () -> timedOperators());
        test("MODEST if it has at most 5 of them", () -> modest());
        test("at most 5 of them: five on all states and links", () -> fiveOnAllLinks());
    }

    private static void textOf32() {
        for (int before = 0; before <= 32; before++) {
            Run x = new Run().text("!".repeat(before));
            for (int more = 0; more <= 8; more++) {
                String part = more == 0 ? "part 0" : "type " + "p".repeat(more);
                if (before + more > 32) {
                    x.refuses(part, "false");
                } else {
                    Run y = x.twin();
                    y.gives(part, "true");
                    y.gives("length", "" + (before + more));
                }
            }
        }
        Run longest = new Run().text("!".repeat(31));
        longest.refuses("type !p", "false");
        longest.gives("type p", "true");
        longest.refuses("type p", "false");
        longest.gives("formula", "0");
        longest.hasForm("A");
    }

    private static void noBlanks() {
        Run x = busy();
        x.refuses("part 32", "false");
        x.refuses("part " + (' ' * 256L + 'p'), "false");
        x.refuses("part " + ('p' * 256L + ' '), "false");
        x.gives("length", "3");
    }

    private static void textsOfOne() {
        for (char sign = 33; sign <= 126; sign++) {
            if ("pqrs10".indexOf(sign) >= 0) {
                isFormula("" + sign, 0, "" + sign);
            } else {
                isNoFormula("" + sign);
            }
        }
    }

    private static void textsOfTwo() {
        for (char first = 33; first <= 126; first++) {
            for (char second = 33; second <= 126; second++) {
                String text = "" + first + second;
                boolean is = "!XFG".indexOf(first) >= 0 && "pqrs10".indexOf(second) >= 0;
                due(text, new Run().text(text).make("formula"),
                        !is ? NOT_READ : first == '!' ? "0" : "1");
            }
        }
    }

    private static void textsOfThree() {
        String signs = "!XFG()pqrs10&|>URot2/YEV=%'{}";
        for (int k = 0; k < signs.length() * signs.length() * signs.length(); k++) {
            char first = signs.charAt(k / signs.length() / signs.length());
            char second = signs.charAt(k / signs.length() % signs.length());
            char third = signs.charAt(k % signs.length());
            String text = "" + first + second + third;
            due(text, new Run().text(text).make("formula"),
                    isFormulaOfThree(first, second, third) ? "" + timedIn(text) : NOT_READ);
        }
    }

    private static boolean isFormulaOfThree(char first, char second, char third) {
        String units = "pqrs10";
        String prefixes = "!XFG";
        if (first == '(') {
            return units.indexOf(second) >= 0 && third == ')';
        }
        if (units.indexOf(third) < 0) {
            return false;
        }
        return units.indexOf(first) >= 0 && "&|>UR".indexOf(second) >= 0
                || prefixes.indexOf(first) >= 0 && prefixes.indexOf(second) >= 0;
    }

    private static int timedIn(String text) {
        int timed = 0;
        for (char sign : text.toCharArray()) {
            timed += "XFGUR".indexOf(sign) >= 0 ? 1 : 0;
        }
        return timed;
    }

    /** No time, once and twice; and what the sign lacks on either side. */
    private static void repeats(char sign, String once, String twice, String formOfTwice) {
        isFormula("p", 0, "p");
        int timed = timedIn("" + sign);
        isFormula("p" + sign + "q", timed, once);
        isFormula(twice, 2 * timed, formOfTwice);
        String[] broken = {
            "@", "p@", "@p", "p@@q", "p@q@", "@p@q", "(p@)q", "p(@q)", "p@)", "(@p", "()@p", "p@()"
        };
        for (String text : broken) {
            isNoFormula(text.replace('@', sign));
        }
    }

    private static void binding() {
        String signs = ">|&UR";
        for (char first : signs.toCharArray()) {
            for (char second : signs.toCharArray()) {
                int one = Math.min(signs.indexOf(first), 3);
                int two = Math.min(signs.indexOf(second), 3);
                boolean toTheLeft = one > two || one == two && (one == 1 || one == 2);
                String text = "1" + first + "1" + second + "1";
                String left = "(1" + first + "1)" + second + "1";
                String right = "1" + first + "(1" + second + "1)";
                due(text, formOf(text), formOf(toTheLeft ? left : right));
                due(left + " is not " + right, "" + formOf(left).equals(formOf(right)), "false");
            }
        }
        for (char first : "!XFG".toCharArray()) {
            for (char second : signs.toCharArray()) {
                String text = first + "p" + second + "q";
                due(text, formOf(text), formOf("(" + first + "p)" + second + "q"));
            }
        }
    }

    private static void groupsToTheLeft() {
        isFormula("p&q&r&s", 0, "&&&pqrs");
        isFormula("p|q|r|s", 0, "|||pqrs");
        isFormula("p&q|r&s|p", 0, "||&pq&rsp");
        isFormula("p&(q&r)&s", 0, "&&p&qrs");
        isFormula("1" + "&1".repeat(15), 0, "&".repeat(15) + "1".repeat(16));
        isFormula("1" + "|1".repeat(15), 0, "|".repeat(15) + "1".repeat(16));
    }

    private static void depthOf6() {
        for (int depth = 1; depth <= 15; depth++) {
            String open = "(".repeat(depth);
            String close = ")".repeat(depth);
            isFormulaIf(depth <= 6, open + "p" + close, "p");
        }
        for (int depth = 6; depth <= 7; depth++) {
            String open = "(".repeat(depth);
            String close = ")".repeat(depth);
            boolean is = depth == 6;
            isFormulaIf(is, "!" + open + "p" + close, "A");
            isFormulaIf(is, "!(".repeat(depth) + "p" + close, is ? "p" : "A");
            isFormulaIf(is, "q&" + open + "p" + close, "&qp");
            isFormulaIf(is, open + "p" + close + "|q", "|pq");
            isFormulaIf(is, open + "p" + ")|q".repeat(depth),
                    "|".repeat(depth) + "p" + "q".repeat(depth));
            isFormulaIf(is, "q>(".repeat(depth) + "p" + close, "|B".repeat(depth) + "p");
            isFormulaIf(is, "(p)&" + open + "q" + close, "&pq");
            isFormulaIf(is, "((p)&" + "(".repeat(depth - 1) + "q" + close, "&pq");
            isFormulaIf(is, "(((p)))&(q&" + "(".repeat(depth - 1) + "r" + close, "&p&qr");
        }
        isNoFormula("(((((((");
        isNoFormula("(((((((p))))))");
        isNoFormula("((((((p)))))))");
        isNoFormula("((((((p)))))");
    }

    private static void manyParentheses() {
        isFormula("(p)&(p)&(p)&(p)&(p)&(p)&(p)&(p)", 0, "&".repeat(7) + "p".repeat(8));
        isFormula("((((((p))))))&((((((q))))))", 0, "&pq");
        isFormula("((((((p)&(q)))))>((r)))", 0, "||ABr");
        isNoFormula("((((((p)&((q)))))>((r))))");
    }

    private static void timedOperators() {
        isFormula("Xp", 1, "Xp");
        isFormula("Fp", 1, "U1p");
        isFormula("Gp", 1, "R0p");
        isFormula("pUq", 1, "Upq");
        isFormula("pRq", 1, "Rpq");
        isFormula("!!!!!!!p&p&p|p|p>p>p>(((p)))", 0, formOf("(!p&p&p|p|p)>(p>(p>p))"));
        isFormula("!(!X!F!(pU!G!q)R!r)", 5, "UXR0UpU1qr");
    }

    private static void modest() {
        isFormula("X".repeat(5) + "p", 5, "XXXXXp");
        isFormula("F".repeat(5) + "p", 5, "U1".repeat(5) + "p");
        isFormula("G".repeat(5) + "p", 5, "R0".repeat(5) + "p");
        isFormula("pU".repeat(5) + "p", 5, "Up".repeat(5) + "p");
        isFormula("pR".repeat(5) + "p", 5, "Rp".repeat(5) + "p");
        isFormula("XFGpUqRr", 5, "UXU1R0pRqr");
        isFormula("Xp|Xp|Xp|Xp|Xp", 5, "||||XpXpXpXpXp");
        String[] texts = {
            "XXXXXXp", "FFFFFFp", "GGGGGGp", "pUpUpUpUpUpUp", "pRpRpRpRpRpRp", "XXFGpUqRr",
            "Xp|Xp|Xp|Xp|Xp|Xp", "X!X!X!X!X!X!p", "(((pUp)Up)Up)U(pU(pUp))",
            "X".repeat(31) + "p", "F".repeat(31) + "1", "1U".repeat(15) + "!0"
        };
        for (String text : texts) {
            isNotModest(text);
        }
    }

    /** Each row of five futures can follow each state: there is no more to look at than here. */
    private static void fiveOnAllLinks() {
        Run x = allLinked().all("mark 1 1", "mark 3 1", "mark 5 1");
        x.formula("XXXXXp");
        hasSets(x, 63, 63);
        x.hasWitness(0, "0", 0);
        x.hasWitness(1, "10", 0);
        x.formula("XXXXX1");
        hasSets(x, 0, 63);
        x.formula("X(p&X(!p&X(p&X(!p&Xp))))");
        hasSets(x, 63, 63);
        x.formula("!X(p&X(!p&X(p&X(!p&Xp))))");
        hasSets(x, 63, 63);
        x.hasWitness(0, "01", 0);
        x.hasWitness(1, "110", 1);
        x.formula("GF(p&XX!p)|Fp");
        hasSets(x, 21, 63);
        x.formula("pU(!pU(pU(!pUGp)))");
        hasSets(x, 63, 63);
        x.formula("pR(!pR(pR(!pRFp)))");
        hasSets(x, 63, 63);
    }

    private static void hasSets(Run x, int breaking, int keeping) {
        x.gives("breaking", "" + breaking);
        x.gives("keeping", "" + keeping);
        for (int s = 0; s <= 5; s++) {
            x.gives("keeps " + s, "" + ((breaking >> s & 1) == 0));
        }
    }

    // Terms: states, marks, links, what holds

    private static void termsOfStructures() {
        test("STATES are 0 .. 5.", () -> sixStates());
        test("MARKS, a set of p, q, r, s (1, 2, 4, 8)", () -> marksAreLetters());
        test("links to some states (also to itself)", () -> linksToItself());
        test("at first there are no marks and no links", () -> noneAtFirst());
        test("A PATH is an endless row of states", () -> anEndIsNoPath());
        test("1 holds, 0 does not; !a, a & b, a | b as usual; a > b is !a | b", () -> tables());
        test("X a holds if a does at place i + 1", () -> next());
        test("a U b if there is a place k from i on", () -> until());
        test("a R b if at each place k from i on", () -> release());
        test("F a is 1 U a", () -> finallyHolds());
        test("G a is 0 R a", () -> globallyHolds());
        test("KEEPS a formula that holds at its place 0", () -> keepsAtPlace0());
    }

    private static void sixStates() {
        Run x = new Run("link 0 0 true").formula("1");
        for (int s = 0; s <= 5; s++) {
            x.gives("mark " + s + " 3", "true");
            x.gives("state " + s + " -1", "3");
            x.gives("link " + s + " " + (5 - s) + " true", "true");
            x.gives("state " + s + " " + (5 - s), "1");
            // 1 and 2 wait for the links of 4 and 3.
            x.gives("endless " + s, "" + (s != 1 && s != 2));
            x.gives("keeps " + s, "true");
            x.gives("witness " + s + " -1", "-1");
            x.gives("go " + s, "" + (s + 1));
        }
        for (int s : NO_STATES) {
            x.refuses("mark " + s + " 3", "false");
            x.refuses("state " + s + " -1", "-1");
            x.refuses("link " + s + " 0 true", "false");
            x.refuses("link 0 " + s + " true", "false");
            x.refuses("endless " + s, "false");
            x.refuses("keeps " + s, NO_PLACE);
            x.refuses("witness " + s + " -1", "-1");
            x.refuses("go " + s, "-1");
        }
    }

    private static void marksAreLetters() {
        for (int marks = 0; marks <= 15; marks++) {
            Run x = new Run("mark 3 " + marks, "link 3 3 true", "go 3");
            for (int k = 0; k < 4; k++) {
                boolean has = (marks >> k & 1) == 1;
                x.formula("" + "pqrs".charAt(k));
                x.gives("judge 0 0", "" + has);
                x.gives("keeps 3", "" + has);
                x.gives("breaking", has ? "0" : "8");
                x.gives("keeping", has ? "8" : "0");
                x.gives("witness 3 -1", has ? "-1" : "1");
                x.formula("!" + "pqrs".charAt(k));
                x.gives("judge 0 0", "" + !has);
                x.gives("keeps 3", "" + !has);
                x.gives("breaking", has ? "8" : "0");
                x.gives("keeping", has ? "0" : "8");
                x.gives("witness 3 -1", has ? "1" : "-1");
            }
        }
    }

    private static void linksToItself() {
        for (int s = 0; s <= 5; s++) {
            Run x = new Run().formula("0");
            x.gives("link " + s + " " + s + " true", "true");
            x.gives("state " + s + " " + s, "1");
            x.gives("endless " + s, "true");
            x.gives("breaking", "" + (1 << s));
            x.gives("witness " + s + " -1", "1");
            x.refuses("link " + s + " " + s + " true", "false");
            x.gives("link " + s + " " + s + " false", "true");
            x.gives("endless " + s, "false");
            x.gives("breaking", "0");
            x.refuses("link " + s + " " + s + " false", "false");
        }
    }

    private static void noneAtFirst() {
        Run x = new Run();
        for (int s = 0; s <= 5; s++) {
            for (int b = -1; b <= 5; b++) {
                x.gives("state " + s + " " + b, "0");
            }
            x.gives("endless " + s, "false");
            x.gives("link " + s + " 0 false", "false");
        }
    }

    private static void anEndIsNoPath() {
        Run x = new Run().formula("0");
        for (int s = 0; s < 5; s++) {
            x.gives("link " + s + " " + (s + 1) + " true", "true");
        }
        x.gives("breaking", "0");
        x.gives("endless 0", "false");
        x.gives("link 5 4 true", "true");
        x.gives("breaking", "63");
        x.gives("endless 0", "true");
        x.gives("link 4 5 false", "true");
        x.gives("breaking", "0");
        x.gives("endless 5", "false");
    }

    private static void tables() {
        Run x = new Run("link 0 0 true", "go 0");
        for (int a = 0; a <= 1; a++) {
            holds(x, "" + a, a == 1);
            holds(x, "!" + a, a == 0);
            for (int b = 0; b <= 1; b++) {
                holds(x, a + "&" + b, a == 1 && b == 1);
                holds(x, a + "|" + b, a == 1 || b == 1);
                holds(x, a + ">" + b, a == 0 || b == 1);
                holds(x, a + "U" + b, b == 1);
                holds(x, a + "R" + b, b == 1);
            }
        }
    }

    /** Also from the last place, where it is the place at which the row goes on. */
    private static void next() {
        for (int j = 0; j <= 7; j++) {
            for (int at = 0; at <= 5; at++) {
                Run x = allLinked().formula("Xp");
                x.make("mark " + at + " 1");
                int[] row = {0, 1, 2, 3, 4, 5, 5, 4};
                x.go(row);
                for (int i = 0; i <= 7; i++) {
                    int following = i < 7 ? i + 1 : j;
                    x.gives("judge " + j + " " + i, "" + (row[following] == at));
                }
            }
        }
    }

    /** State 0 has nothing, 1 has p, 2 has q, 3 has both. */
    private static Run rowOf(int... states) {
        return allLinked().all("mark 1 1", "mark 2 2", "mark 3 3").go(states);
    }

    private static void until() {
        // k is i itself: a needs to hold nowhere.
        judged(rowOf(2, 0), "pUq", 1, 0, true);
        judged(rowOf(2, 0), "0U1", 1, 0, true);
        // a holds up to k - 1, and need not at k.
        judged(rowOf(1, 1, 2, 0), "pUq", 3, 0, true);
        judged(rowOf(1, 1, 3, 0), "pUq", 3, 0, true);
        // a lacks at k - 1, or at i.
        judged(rowOf(1, 0, 2), "pUq", 2, 0, false);
        judged(rowOf(0, 1, 2), "pUq", 2, 0, false);
        // there is no such k, though a holds for ever.
        judged(rowOf(1, 1, 1), "pUq", 0, 0, false);
        judged(rowOf(1, 1, 1), "1U0", 2, 1, false);
        // k is the last place; k is reached by going on at j; k lies before j.
        judged(rowOf(1, 1, 1, 1, 1, 1, 1, 2), "pUq", 7, 0, true);
        judged(rowOf(2, 0, 1, 1, 1, 1, 1, 1), "pUq", 0, 7, true);
        judged(rowOf(2, 0, 1, 1, 1, 1, 1, 1), "pUq", 1, 7, false);
        judged(rowOf(2, 1, 1, 1, 1, 1, 1, 1), "pUq", 1, 7, false);
        judged(rowOf(0, 1, 1, 2, 1, 1, 1, 1), "pUq", 1, 4, true);
        judged(rowOf(0, 1, 1, 2, 1, 1, 1, 1), "pUq", 0, 4, false);
    }

    private static void release() {
        // at k = i there is no place for a yet: b has to hold.
        judged(rowOf(1, 2), "pRq", 1, 0, false);
        judged(rowOf(3, 0), "pRq", 1, 0, true);
        // a at k - 1 is enough for k, a at k is not.
        judged(rowOf(2, 3, 0), "pRq", 2, 0, true);
        judged(rowOf(2, 1, 0), "pRq", 2, 0, false);
        judged(rowOf(2, 2, 1), "pRq", 2, 0, false);
        // b for ever, and a never.
        judged(rowOf(2, 2, 2), "pRq", 0, 0, true);
        judged(rowOf(2, 2, 2), "0R1", 2, 1, true);
        judged(rowOf(2, 2, 0), "pRq", 2, 0, false);
        // the last place; by going on at j; what lies before j counts no more.
        judged(rowOf(2, 2, 2, 2, 2, 2, 2, 0), "pRq", 7, 0, false);
        judged(rowOf(2, 2, 2, 2, 2, 2, 3, 0), "pRq", 7, 0, true);
        judged(rowOf(0, 2, 2, 2, 2, 2, 2, 2), "pRq", 0, 7, false);
        judged(rowOf(0, 2, 2, 2, 2, 2, 2, 2), "pRq", 1, 7, true);
        judged(rowOf(3, 0, 2, 2, 2, 2, 2, 2), "pRq", 0, 7, true);
        judged(rowOf(1, 0, 2, 2, 2, 2, 2, 2), "pRq", 0, 7, false);
    }

    private static void finallyHolds() {
        judged(rowOf(1, 0, 0), "Fp", 1, 0, true);
        judged(rowOf(1, 0, 0), "Fp", 1, 1, false);
        judged(rowOf(1, 0, 0), "Fp", 0, 1, true);
        judged(rowOf(0, 0, 0, 0, 0, 0, 0, 1), "Fp", 7, 0, true);
        judged(rowOf(0, 0, 0, 0, 0, 0, 0, 0), "Fp", 0, 0, false);
        judged(rowOf(0), "F1", 0, 0, true);
        judged(rowOf(0), "F0", 0, 0, false);
    }

    private static void globallyHolds() {
        judged(rowOf(0, 1, 1), "Gp", 1, 0, false);
        judged(rowOf(0, 1, 1), "Gp", 1, 1, true);
        judged(rowOf(0, 1, 1), "Gp", 0, 1, false);
        judged(rowOf(1, 1, 1, 1, 1, 1, 1, 0), "Gp", 0, 0, false);
        judged(rowOf(1, 1, 1, 1, 1, 1, 1, 1), "Gp", 0, 0, true);
        judged(rowOf(0), "G1", 0, 0, true);
        judged(rowOf(0), "G0", 0, 0, false);
    }

    private static void keepsAtPlace0() {
        Run x = new Run("mark 0 1", "link 0 1 true", "link 1 1 true").go(0, 1).formula("p");
        x.gives("keeps 0", "true");
        x.gives("keeps 1", "false");
        x.gives("judge 1 0", "true");
        x.gives("judge 1 1", "false");
        x.formula("Xp");
        x.gives("keeps 0", "false");
        x.gives("breaking", "3");
    }

    // Terms: the normal form

    private static void termsOfForms() {
        test("of p, q, r, s, 1, 0 the character itself", () -> forms("p p q q r r s s 1 1 0 0"));
        test("of !p, !q, !r, !s the characters A, B, C, D", () -> forms("!p A !q B !r C !s D"));
        test("& | U R and then those of a and of b",
                () -> forms("p&q &pq p|q |pq pUq Upq pRq Rpq"));
        test("of X a X and those of a", () -> forms("Xp Xp XX!p XXA X(p&q) X&pq"));
        test("F a and G a are U1a and R0a", () -> forms("Fp U1p Gp R0p FG1 U1R01 GF0 R0U10"));
        test("a > b is !a | b", () -> forms("p>q |Aq !p>q |pq (p>q)>r |&pBr 0>1 |11 p>p |Ap"));
        test("!!a is a", () -> forms("!!p p !!!p A !!1 1 !!Xp Xp !!(p&q) &pq !!Fp U1p !!Gp R0p"));
        test("!1 is 0, !0 is 1", () -> forms("!1 0 !0 1 !!!1 0 !!!0 1"));
        test("!(a & b) is !a | !b", () -> forms("!(p&q) |AB !(!p&1) |p0 !(p&q&r) ||ABC"));
        test("!(a | b) is !a & !b",
                () -> forms("!(p|q) &AB !(!p|0) &p1 !(p|q|r) &&ABC !(p>q) &pB"));
        test("!(a U b) is !a R !b", () -> forms("!(pUq) RAB !(pUqUr) RARBC !Fp R0A !(1Up) R0A"));
        test("!(a R b) is !a U !b", () -> forms("!(pRq) UAB !(pRqRr) UAUBC !Gp U1A !(0Rp) U1A"));
        test("!X a is X !a", () -> forms("!Xp XA !X!p Xp !XXp XXA !X(p>q) X&pB"));
        test("the longest normal form", () -> longestForm());
    }

    /** Texts and their normal forms in turn. */
    private static void forms(String pairs) {
        String[] words = pairs.split(" ");
        for (int k = 0; k < words.length; k += 2) {
            isFormula(words[k], timedIn(words[k]), words[k + 1]);
        }
    }

    private static void longestForm() {
        isFormula("FFFFFp" + "&p".repeat(13), 5, "&".repeat(13) + "U1".repeat(5) + "p".repeat(14));
        isFormula("1" + "&p".repeat(13) + "|FG0", 2,
                "|" + "&".repeat(13) + "1" + "p".repeat(13) + "U1R00");
        Run x = new Run().formula("FFFFFp" + "&p".repeat(13));
        x.gives("normal -1", "37");
        x.gives("normal 36", "" + (int) 'p');
        x.refuses("normal 37", "-1");
    }

    // Terms: lassos and rows

    private static void termsOfLassosAndRows() {
        test("A LASSO is a row of n states, n at most 6", () -> lassoOf6());
        test("a row of n states: one is enough", () -> lassoOf1());
        test("the first of which is s", () -> lassoBeginsAtS());
        test("a place j of it to which the last one is linked", () -> placesOfJ());
        test("the one with the lesser n comes first", () -> lesserN());
        test("the one with the lesser state at the first place where they differ",
                () -> lesserState());
        test("of the same states the one with the lesser j", () -> lesserJ());
        test("THE ROW is one of at most 8 states", () -> rowOf8());
        test("THE ROW is at first empty", () -> rowAtFirst());
    }

    /** Round 0 and 1 once more, and then by some states to one with s, where the path stays. */
    private static Run roundAndOut(int last) {
        Run x = new Run("mark 0 1", "link 0 1 true", "link 1 0 true");
        for (int s = 1; s < last; s++) {
            x.make("link " + s + " " + (s + 1) + " true");
        }
        x.all("link " + last + " " + last + " true", "mark " + last + " 8");
        return x.formula("!(XFp&FGs)");
    }

    private static void lassoOf6() {
        Run fits = roundAndOut(3);
        fits.hasWitness(0, "010123", 5);
        fits.hasWitness(1, "10123", 4);
        fits.gives("breaking", "3");
        Run tooLong = roundAndOut(4);
        tooLong.hasNoWitness(0);
        tooLong.hasWitness(1, "101234", 5);
        tooLong.gives("breaking", "3");
        tooLong.gives("keeps 0", "false");
    }

    private static void lassoOf1() {
        for (int s = 0; s <= 5; s++) {
            Run x = new Run("link " + s + " " + s + " true").formula("0");
            x.hasWitness(s, "" + s, 0);
        }
    }

    private static void lassoBeginsAtS() {
        Run x = allLinked().formula("0");
        for (int s = 0; s <= 5; s++) {
            x.hasWitness(s, "" + s, 0);
        }
        x.formula("X0");
        for (int s = 0; s <= 5; s++) {
            x.hasWitness(s, "" + s, 0);
        }
    }

    private static void placesOfJ() {
        for (int j = 0; j <= 5; j++) {
            Run x = new Run("mark 5 8").formula("!Fs");
            for (int s = 0; s < 5; s++) {
                x.make("link " + s + " " + (s + 1) + " true");
            }
            x.hasNoWitness(0);
            x.make("link 5 " + j + " true");
            x.hasWitness(0, "012345", j);
            x.hasWitness(5, "5" + "01234".substring(j), 0);
        }
    }

    private static void lesserN() {
        Run x = new Run("link 0 1 true", "link 1 2 true", "link 2 2 true");
        x.all("link 0 5 true", "link 5 5 true").formula("0");
        x.hasWitness(0, "05", 1);
        x.make("link 0 0 true");
        x.hasWitness(0, "0", 0);
        x.make("link 0 0 false");
        x.make("link 5 5 false");
        x.hasWitness(0, "012", 2);
    }

    private static void lesserState() {
        Run x = allLinked().all("mark 2 1", "mark 4 1").formula("!(Xp&XX!p)");
        x.hasWitness(0, "02", 0);
        x.make("link 2 0 false");
        x.hasWitness(0, "04", 0);
        x.make("link 4 0 false");
        x.hasWitness(0, "021", 0);
        x.make("link 2 1 false");
        x.hasWitness(0, "023", 0);
        x.make("link 0 2 false");
        x.hasWitness(0, "041", 0);
    }

    private static void lesserJ() {
        Run x = allLinked().all("mark 0 2", "mark 3 1").formula("!(X(!p&X(!p&Xp)))");
        x.hasWitness(5, "5003", 0);
        x.make("link 3 5 false");
        x.hasWitness(5, "5003", 1);
        x.make("link 3 0 false");
        x.hasWitness(5, "5003", 3);
        x.make("link 3 3 false");
        x.hasWitness(5, "5013", 2);
    }

    private static void rowOf8() {
        Run x = new Run();
        for (int count = 1; count <= 8; count++) {
            x.gives("go " + count % 6, "" + count);
        }
        for (int s = 0; s <= 5; s++) {
            x.refuses("go " + s, "-1");
        }
        for (int s : NO_STATES) {
            x.refuses("go " + s, "-1");
        }
    }

    private static void rowAtFirst() {
        Run x = new Run().formula("1");
        x.refuses("judge 0 0", NO_FORMULA);
        x.gives("go 0", "1");
    }

    // Terms: what holds for every call

    private static void termsOfAllCalls() {
        test("A call that answers false or NONE, or throws, changes nothing: one after the other",
                () -> manyRefusedChangeNothing());
        test("answers false, changes nothing: also where false is no refusal",
                () -> falseAnswersChangeNothing());
        test("Of several exceptions the one listed first is thrown: formula",
                () -> firstOfFormula());
        test("Of several exceptions the one listed first is thrown: keeps", () -> firstOfKeeps());
        test("Of several exceptions the one listed first is thrown: judge", () -> firstOfJudge());
        test("ahead of any answer", () -> aheadOfAnswers());
        test("NONE = -1", () -> due("NONE", "" + PathChecker.NONE, "-1"));
    }

    private static void manyRefusedChangeNothing() {
        String[] calls = {
            "part -1", "part " + Long.MIN_VALUE, "part " + Long.MAX_VALUE, "part 32", "part 127",
            "part 28799", "mark -1 1", "mark 6 1", "mark 0 16", "mark 0 -1", "mark 5 " + MAX,
            "mark " + MIN + " " + MIN, "link -1 0 true", "link 0 6 true", "link 6 6 false",
            "link " + MAX + " " + MIN + " true", "state 6 -1", "state 0 6", "state 0 -2",
            "state -1 -1", "endless 6", "endless -1", "go 6", "go -1", "go " + MIN, "go " + MAX,
            "keeps 6", "keeps -1", "witness 6 0", "witness 0 -3", "witness 0 6", "witness -1 -1",
            "normal -2", "normal 37", "normal " + MIN, "judge 8 0", "judge 0 8", "judge -1 -1"
        };
        for (Run base : bases()) {
            Run with = base.twin();
            for (String call : calls) {
                due(call + " is refused", "" + isRefusal(with.make(call)), "true");
            }
            with.looksLike(base, "all refused calls");
        }
    }

    private static boolean isRefusal(String answer) {
        return answer.equals("false") || answer.equals("-1") || answer.startsWith("throws.");
    }

    private static void falseAnswersChangeNothing() {
        Run x = busy();
        x.refuses("keeps 0", "false");
        x.refuses("endless 3", "false");
        x.refuses("judge 2 1", "false");
        x.refuses("link 0 1 true", "false");
        x.refuses("link 1 0 false", "false");
        x.refuses("witness 3 -1", "-1");
        x.refuses("witness 0 3", "-1");
    }

    private static void firstOfFormula() {
        String[] neither = {
            "XXXXXX", "XXXXXXp)", "(XXXXXXp", "FFFFFF(((((((p)))))))", "XXXXXXpq"
        };
        for (Run base : bases()) {
            base.make("wipe");
            for (String text : neither) {
                base.twin().text(text).refuses("formula", NOT_READ);
            }
            base.twin().text("XXXXXX(p)").refuses("formula", NOT_DONE);
            base.twin().text("FFFFFF((((((p))))))").refuses("formula", NOT_DONE);
        }
    }

    private static void firstOfKeeps() {
        Run x = new Run("link 0 0 true");
        for (int s : NO_STATES) {
            x.refuses("keeps " + s, NO_FORMULA);
        }
        x.refuses("keeps 0", NO_FORMULA);
        x.formula("1");
        for (int s : NO_STATES) {
            x.refuses("keeps " + s, NO_PLACE);
        }
        x.gives("keeps 0", "true");
    }

    private static void firstOfJudge() {
        // No formula and no row; no formula; no row: ahead of places and links.
        new Run().refuses("judge 9 9", NO_FORMULA);
        new Run("go 0").refuses("judge 9 9", NO_FORMULA);
        new Run("go 0").refuses("judge 0 0", NO_FORMULA);
        new Run().formula("1").refuses("judge 9 9", NO_FORMULA);
        new Run().formula("1").refuses("judge 0 0", NO_FORMULA);
        // No place: ahead of links.
        Run x = new Run("go 0", "go 1").formula("1");
        x.refuses("judge 2 0", NO_PLACE);
        x.refuses("judge 0 2", NO_PLACE);
        x.refuses("judge -1 0", NO_PLACE);
        x.refuses("judge 0 -1", NO_PLACE);
        x.refuses("judge 0 0", NOT_DONE);
        x.refuses("judge 1 1", NOT_DONE);
    }

    private static void aheadOfAnswers() {
        Run x = new Run("link 0 0 true");
        for (int k : new int[] {MIN, -3, -2, -1, 0, 1, 37, MAX}) {
            x.refuses("normal " + k, NO_FORMULA);
            x.refuses("witness 0 " + k, NO_FORMULA);
            x.refuses("witness 6 " + k, NO_FORMULA);
            x.refuses("witness -1 " + k, NO_FORMULA);
        }
        x.refuses("keeps 1", NO_FORMULA);
        x.refuses("breaking", NO_FORMULA);
        x.refuses("keeping", NO_FORMULA);
    }

    // Promises 1 to 6

    private static void promisesOfTexts() {
        test("1: No formula", () -> noFormulaAtFirst());
        test("1: an empty text", () -> noTextAtFirst());
        test("1: an empty row", () -> emptyRowOfNewObject());
        test("1: a new object has nothing of another one", () -> objectsOfTheirOwn());
        test("2: the eight bytes of part, the highest first", () -> bytesInOrder());
        test("2: (bytes that are 0 are passed over)", () -> zeroBytes());
        test("2: false if another byte is not 33 .. 126", () -> bytesThatAreTaken());
        test("2: or there would be more than 32", () -> zeroBytesCountNothing());
        test("2: false: the bytes before the bad one are not added", () -> noHalfPart());
        test("2: the least and the greatest long", () -> longsOfType());
        test("3: The text becomes empty.", () -> wipe());
        test("4: How many characters the text has.", () -> length());
        test("5: The text is the formula from now on, and is empty then", () -> formulaTakesText());
        test("5: how many TIMED operators it has", () -> timedFromNoneToFive());
        test("5: IllegalArgumentException if it is no formula", () -> emptyTextIsNone());
        test("5: UnsupportedOperationException if it is one, but not MODEST",
                () -> notModestStays());
        test("6: Character k (from 0), as its code", () -> codes());
        test("6: how many it has, if k is -1; NONE if there is none such", () -> placesOfForm());
        test("6: IllegalStateException if there is no formula", () -> normalOfNone());
    }

    private static void noFormulaAtFirst() {
        Run x = new Run("link 0 0 true", "go 0");
        x.refuses("normal -1", NO_FORMULA);
        x.refuses("normal 0", NO_FORMULA);
        x.refuses("keeps 0", NO_FORMULA);
        x.refuses("breaking", NO_FORMULA);
        x.refuses("keeping", NO_FORMULA);
        x.refuses("witness 0 -1", NO_FORMULA);
        x.refuses("judge 0 0", NO_FORMULA);
        // A text alone is none, nor is one that was refused.
        x.text("p");
        x.refuses("normal -1", NO_FORMULA);
        x.text("&");
        x.refuses("formula", NOT_READ);
        x.refuses("breaking", NO_FORMULA);
        x.make("wipe");
        x.text("XXXXXXp");
        x.refuses("formula", NOT_DONE);
        x.refuses("judge 0 0", NO_FORMULA);
    }

    private static void noTextAtFirst() {
        Run x = new Run();
        x.gives("length", "0");
        x.refuses("formula", NOT_READ);
        x.gives("length", "0");
    }

    private static void emptyRowOfNewObject() {
        Run x = allLinked().formula("1");
        for (int place = 0; place <= 8; place++) {
            x.refuses("judge " + place + " 0", NO_FORMULA);
            x.refuses("judge 0 " + place, NO_FORMULA);
        }
        x.gives("go 5", "1");
        x.refuses("judge 0 1", NO_PLACE);
        x.refuses("judge 1 0", NO_PLACE);
        x.gives("judge 0 0", "true");
    }

    private static void objectsOfTheirOwn() {
        Run first = new Run();
        Run other = full();
        first.looksLike(new Run(), "calls on another object");
        other.looksLike(full(), "calls on another object");
    }

    private static void bytesInOrder() {
        Run x = new Run();
        x.gives("part " + 0x703E713E723E7330L, "true");
        x.gives("length", "8");
        x.refuses("formula", NOT_READ);
        x.make("wipe");
        x.gives("part " + 0x2121703E713E7273L, "true");
        x.refuses("formula", NOT_READ);
        x.make("wipe");
        x.gives("part " + 0x2821707C71297C72L, "true");
        x.gives("part " + 0x3E73000000000000L, "true");
        x.gives("length", "10");
        x.gives("formula", "0");
        x.hasForm("|&&pBCs");
    }

    private static void zeroBytes() {
        for (int at = 0; at < 8; at++) {
            Run x = new Run();
            x.gives("part " + ((long) 'q' << 8 * at), "true");
            x.gives("length", "1");
            x.gives("formula", "0");
            x.hasForm("q");
        }
        Run gaps = new Run();
        gaps.gives("part " + 0x0070000055007100L, "true");
        gaps.gives("length", "3");
        gaps.gives("part 0", "true");
        gaps.gives("length", "3");
        gaps.gives("formula", "1");
        gaps.hasForm("Upq");
        for (Run base : bases()) {
            Run with = base.twin();
            with.gives("part 0", "true");
            with.looksLike(base, "part 0");
        }
    }

    /** Only what is added counts: a part may have zero bytes around what still fits. */
    private static void zeroBytesCountNothing() {
        Run x = new Run().text("!".repeat(31));
        for (int at = 0; at < 8; at++) {
            Run fits = x.twin();
            fits.gives("part " + ((long) 'p' << 8 * at), "true");
            fits.gives("length", "32");
            fits.gives("formula", "0");
            fits.hasForm("A");
            for (int other = 0; other < at; other++) {
                long two = (long) '!' << 8 * at | (long) 'p' << 8 * other;
                x.refuses("part " + two, "false");
            }
        }
        Run full = new Run().text("!".repeat(32));
        full.gives("part 0", "true");
        full.gives("length", "32");
        for (int at = 0; at < 8; at++) {
            full.refuses("part " + ((long) 'p' << 8 * at), "false");
        }
    }

    private static void bytesThatAreTaken() {
        for (int at = 0; at < 8; at++) {
            for (int sign = 1; sign <= 255; sign++) {
                Run x = new Run().text("p");
                boolean is = sign >= 33 && sign <= 126;
                x.gives("part " + ((long) sign << 8 * at), "" + is);
                x.gives("length", is ? "2" : "1");
            }
            for (int sign : new int[] {1, 32, 127, 128, 160, 161, 254, 255}) {
                for (Run base : bases()) {
                    base.refuses("part " + ((long) sign << 8 * at), "false");
                }
            }
        }
    }

    private static void noHalfPart() {
        Run x = new Run().text("p");
        for (int bad : new int[] {1, 32, 127, 128, 255}) {
            for (int at = 0; at < 8; at++) {
                long mask = 255L << 8 * at;
                long part = 0x2671267226732631L & ~mask | (long) bad << 8 * at;
                x.refuses("part " + part, "false");
                Run y = x.twin();
                y.make("part " + part);
                y.gives("length", "1");
                y.gives("formula", "0");
                y.hasForm("p");
            }
        }
        // Six fit, the seventh does not; nor is one of the six added.
        Run long26 = new Run().text("!".repeat(24) + "!!");
        long26.refuses("type !!!!!!p", "false");
        long26.gives("length", "26");
        long26.gives("type !!!!!p", "true");
        long26.gives("formula", "0");
        long26.hasForm("A");
    }

    private static void longsOfType() {
        for (Run base : bases()) {
            base.refuses("part " + Long.MIN_VALUE, "false");
            base.refuses("part " + (Long.MIN_VALUE + 'p'), "false");
            base.refuses("part " + Long.MAX_VALUE, "false");
            base.refuses("part -1", "false");
            base.refuses("part 1", "false");
            base.refuses("part " + 0x7F7E7E7E7E7E7E7EL, "false");
            base.refuses("part " + 0x2020202020202020L, "false");
        }
        Run x = new Run();
        x.gives("part " + 0x7E7E7E7E7E7E7E7EL, "true");
        x.gives("length", "8");
        x.gives("part " + 0x2121212121212121L, "true");
        x.gives("length", "16");
        x.gives("part 0", "true");
        x.gives("length", "16");
    }

    private static void wipe() {
        for (Run base : bases()) {
            base.gives("wipe", "done");
            base.gives("length", "0");
            base.refuses("formula", NOT_READ);
            Run twice = base.twin();
            twice.gives("wipe", "done");
            twice.looksLike(base, "wipe of an empty text");
        }
        new Run("wipe").looksLike(new Run(), "wipe of a new object");
        busy().all("wipe").looksLike(busyBut(true, false), "wipe, but for the text");
        Run full = full().all("wipe");
        full.gives("part " + 0x2121212121212170L, "true");
        full.gives("length", "8");
        full.gives("formula", "0");
        full.hasForm("A");
    }

    private static void length() {
        Run x = new Run();
        for (int count = 0; count < 32; count++) {
            x.gives("length", "" + count);
            x.gives("type ~", "true");
        }
        x.gives("length", "32");
        x.refuses("type ~", "false");
        x.gives("length", "32");
        x.refuses("formula", NOT_READ);
        x.gives("length", "32");
        x.gives("wipe", "done");
        x.gives("length", "0");
    }

    private static void formulaTakesText() {
        Run x = busy();
        x.gives("type )", "true");
        x.gives("formula", "0");
        x.gives("length", "0");
        x.hasForm("C");
        x.refuses("formula", NOT_READ);
        x.hasForm("C");
        // The row and the structure stay.
        x.gives("judge 2 0", "true");
        x.gives("judge 2 2", "false");
        x.gives("go 2", "4");
        x.gives("state 2 -1", "4");
        x.gives("state 2 0", "1");
        x.gives("breaking", "4");
        x.gives("keeping", "35");
        // One of one character follows the longest, and the longest follows it.
        Run y = full();
        y.gives("formula", "0");
        y.text("0").gives("formula", "0");
        y.hasForm("0");
        y.text("FFFFFp" + "&p".repeat(13)).gives("formula", "5");
        y.hasForm("&".repeat(13) + "U1".repeat(5) + "p".repeat(14));
    }

    private static void timedFromNoneToFive() {
        for (int count = 0; count <= 6; count++) {
            String[] texts = {
                "X".repeat(count) + "p", "F".repeat(count) + "p", "G".repeat(count) + "p",
                "pU".repeat(count) + "p", "pR".repeat(count) + "p", "!X".repeat(count) + "1",
                "p" + "&Fp".repeat(count), "Xp" + "|Gp".repeat(count)
            };
            for (String text : texts) {
                Run x = new Run().text(text);
                int timed = timedIn(text);
                if (timed <= 5) {
                    x.gives("formula", "" + timed);
                } else {
                    x.refuses("formula", NOT_DONE);
                }
            }
        }
    }

    private static void emptyTextIsNone() {
        String[] broken = {
            "p&", "(p", "p)", "pq", "~", "!".repeat(32), "(".repeat(32), "p".repeat(32)
        };
        for (Run base : bases()) {
            base.make("wipe");
            base.refuses("formula", NOT_READ);
            for (String text : broken) {
                Run x = base.twin().text(text);
                x.refuses("formula", NOT_READ);
                x.gives("length", "" + text.length());
            }
        }
        // What was refused can be gone on with.
        Run x = new Run().text("(p");
        x.gives("formula", NOT_READ);
        x.gives("type )", "true");
        x.gives("formula", "0");
        x.hasForm("p");
    }

    private static void notModestStays() {
        for (Run base : bases()) {
            Run x = base.all("wipe").text("XXXXXXq");
            x.refuses("formula", NOT_DONE);
            x.gives("length", "7");
            x.gives("formula", NOT_DONE);
            x.gives("wipe", "done");
            x.text("XXXXXq").gives("formula", "5");
            x.hasForm("XXXXXq");
        }
    }

    private static void codes() {
        String signs = "pqrs10ABCD&|URX";
        String[] texts = {
            "p", "q", "r", "s", "1", "0", "!p", "!q", "!r", "!s", "p&p", "p|p", "pUp", "pRp", "Xp"
        };
        for (int k = 0; k < texts.length; k++) {
            new Run().formula(texts[k]).gives("normal 0", "" + (int) signs.charAt(k));
        }
    }

    private static void placesOfForm() {
        Run one = new Run().formula("p");
        one.gives("normal -1", "1");
        one.gives("normal 0", "112");
        Run three = new Run().formula("pUq");
        three.gives("normal -1", "3");
        three.gives("normal 2", "113");
        Run longest = full();
        longest.gives("normal -1", "37");
        longest.gives("normal 36", "112");
        for (int k : new int[] {MIN, MIN + 1, -256, -37, -3, -2, 37, 38, 64, 256, 65536, MAX}) {
            one.refuses("normal " + k, "-1");
            three.refuses("normal " + k, "-1");
            longest.refuses("normal " + k, "-1");
        }
        one.refuses("normal 1", "-1");
        three.refuses("normal 3", "-1");
        // Nothing is left of a longer one.
        longest.all("wipe").formula("p");
        longest.gives("normal -1", "1");
        longest.refuses("normal 1", "-1");
        longest.refuses("normal 36", "-1");
    }

    private static void normalOfNone() {
        for (int k : new int[] {MIN, -2, -1, 0, 1, 36, 37, MAX}) {
            new Run().refuses("normal " + k, NO_FORMULA);
            new Run().text("p").refuses("normal " + k, NO_FORMULA);
        }
    }

    // Promises 7 to 10

    private static void promisesOfStructures() {
        test("7: State s has these MARKS from now on", () -> allMarks());
        test("7: false if there is none such", () -> statesOfMark());
        test("7: or marks is not 0 .. 15", () -> marksOfMark());
        test("8: State a is linked to state b, or not any more", () -> allLinks());
        test("8: false if it is so already", () -> linkedAlready());
        test("8: or there is none such", () -> statesOfLink());
        test("9: The MARKS of state s (b = -1), or 1 if it is linked to state b, else 0",
                () -> answersOfState());
        test("9: NONE if there is no such state (s, or b, if that is not -1)",
                () -> statesOfState());
        test("10: Whether there is a path from state s", () -> endlessOrNot());
        test("10: false if there is none such", () -> statesOfEndless());
    }

    private static void allMarks() {
        for (int s = 0; s <= 5; s++) {
            Run x = allLinked();
            for (int marks = 15; marks >= 0; marks--) {
                x.gives("mark " + s + " " + marks, "true");
                x.gives("state " + s + " -1", "" + marks);
            }
            for (int other = 0; other <= 5; other++) {
                x.gives("state " + other + " -1", "0");
            }
            x.looksLike(allLinked(), "marks that are gone again");
        }
        Run same = busy();
        same.gives("mark 5 8", "true");
        same.looksLike(busy(), "the same marks");
    }

    private static void statesOfMark() {
        for (Run base : bases()) {
            for (int s : NO_STATES) {
                for (int marks : new int[] {MIN, -1, 0, 1, 15, 16, MAX}) {
                    base.refuses("mark " + s + " " + marks, "false");
                }
            }
        }
    }

    private static void marksOfMark() {
        int[] noMarks = {MIN, MIN + 1, -16, -2, -1, 16, 17, 31, 32, 256, 65536, MAX};
        for (Run base : bases()) {
            for (int s : new int[] {0, 5}) {
                for (int marks : noMarks) {
                    base.refuses("mark " + s + " " + marks, "false");
                }
                Run least = base.twin();
                least.gives("mark " + s + " 0", "true");
                least.gives("state " + s + " -1", "0");
                Run greatest = base.twin();
                greatest.gives("mark " + s + " 15", "true");
                greatest.gives("state " + s + " -1", "15");
            }
        }
    }

    private static void allLinks() {
        for (int a = 0; a <= 5; a++) {
            for (int b = 0; b <= 5; b++) {
                Run x = new Run("mark 0 9", "mark 5 6");
                x.gives("link " + a + " " + b + " true", "true");
                for (int k = 0; k < 36; k++) {
                    x.gives("state " + k / 6 + " " + k % 6, k == a * 6 + b ? "1" : "0");
                }
                x.gives("link " + a + " " + b + " false", "true");
                x.looksLike(new Run("mark 0 9", "mark 5 6"), "a link that is gone again");
            }
        }
    }

    private static void linkedAlready() {
        Run none = new Run();
        Run all = allLinked();
        for (int k = 0; k < 36; k++) {
            String link = "link " + k / 6 + " " + k % 6;
            none.refuses(link + " false", "false");
            all.refuses(link + " true", "false");
        }
        none.gives("link 0 5 true", "true");
        none.refuses("link 0 5 true", "false");
        none.refuses("link 5 0 false", "false");
        none.gives("link 0 5 false", "true");
        none.refuses("link 0 5 false", "false");
        none.gives("link 0 5 true", "true");
    }

    private static void statesOfLink() {
        for (Run base : bases()) {
            for (int s : NO_STATES) {
                for (String is : new String[] {" true", " false"}) {
                    base.refuses("link " + s + " 0" + is, "false");
                    base.refuses("link " + s + " 5" + is, "false");
                    base.refuses("link 0 " + s + is, "false");
                    base.refuses("link 5 " + s + is, "false");
                    base.refuses("link " + s + " " + s + is, "false");
                    base.refuses("link " + s + " " + MIN + is, "false");
                    base.refuses("link " + MAX + " " + s + is, "false");
                }
            }
        }
    }

    private static void answersOfState() {
        Run x = new Run("mark 0 15", "mark 5 0", "link 0 0 true", "link 0 5 true", "link 5 0 true");
        x.gives("state 0 -1", "15");
        x.gives("state 5 -1", "0");
        x.gives("state 0 0", "1");
        x.gives("state 0 5", "1");
        x.gives("state 5 0", "1");
        x.gives("state 5 5", "0");
        x.gives("state 0 4", "0");
    }

    private static void statesOfState() {
        for (Run base : bases()) {
            for (int s : NO_STATES) {
                for (int b : new int[] {MIN, -2, -1, 0, 5, 6, MAX}) {
                    base.refuses("state " + s + " " + b, "-1");
                }
                if (s != -1) {
                    base.refuses("state 0 " + s, "-1");
                    base.refuses("state 5 " + s, "-1");
                }
            }
        }
    }

    private static void endlessOrNot() {
        for (int s = 0; s <= 5; s++) {
            for (int b = 0; b <= 5; b++) {
                Run x = new Run("link " + s + " " + b + " true");
                x.gives("endless " + s, "" + (s == b));
                x.gives("endless " + b, "" + (s == b));
                x.make("link " + b + " " + s + " true");
                for (int other = 0; other <= 5; other++) {
                    x.gives("endless " + other, "" + (other == s || other == b));
                }
            }
        }
        // The longest way to a loop, forwards and backwards.
        Run up = new Run();
        Run down = new Run();
        for (int s = 0; s < 5; s++) {
            up.make("link " + s + " " + (s + 1) + " true");
            down.make("link " + (s + 1) + " " + s + " true");
        }
        up.gives("endless 0", "false");
        up.make("link 5 5 true");
        up.gives("endless 0", "true");
        down.gives("endless 5", "false");
        down.make("link 0 0 true");
        down.gives("endless 5", "true");
        down.make("link 3 2 false");
        down.gives("endless 3", "false");
        down.gives("endless 2", "true");
    }

    private static void statesOfEndless() {
        for (Run base : bases()) {
            for (int s : NO_STATES) {
                base.refuses("endless " + s, "false");
            }
        }
        allLinked().gives("endless 0", "true");
        allLinked().gives("endless 5", "true");
    }

    // Promises 11 to 14

    private static void promisesOfPaths() {
        test("11: Whether all paths from state s KEEP the formula", () -> keepsAllOrNot());
        test("11: (so also if there is no path)", () -> keepsWithoutPath());
        test("11: IllegalStateException if there is no formula", () -> keepsWithoutFormula());
        test("11: IndexOutOfBoundsException if there is no such state", () -> statesOfKeeps());
        test("12: The set of all states from which some path BREAKS the formula",
                () -> setsOfBreaking());
        test("12: (state s is 2^s)", () -> bitsOfSets());
        test("12: IllegalStateException if there is no formula",
                () -> new Run().refuses("breaking", NO_FORMULA));
        test("13: The set of all states from which some path KEEPS the formula",
                () -> setsOfKeeping());
        test("13: IllegalStateException if there is no formula",
                () -> new Run().refuses("keeping", NO_FORMULA));
        test("14: its state k (from 0); n, if k is -1; j, if k is -2", () -> placesOfWitness());
        test("14: NONE if there is no such state", () -> statesOfWitness());
        test("14: NONE if there is no such witness", () -> noWitness());
        test("14: IllegalStateException if there is no formula (ahead of that)",
                () -> witnessWithoutFormula());
    }

    private static void keepsAllOrNot() {
        Run x = allLinked().all("mark 5 1").formula("G!p");
        x.gives("keeps 0", "false");
        for (int s = 0; s <= 5; s++) {
            x.make("link " + s + " 5 false");
        }
        x.gives("keeps 0", "true");
        x.gives("keeps 5", "false");
        x.make("link 0 5 true");
        x.gives("keeps 4", "false");
        for (int b = 0; b <= 4; b++) {
            x.make("link 5 " + b + " false");
        }
        // From 5 no path goes on, so no path goes through it.
        x.gives("keeps 4", "true");
        x.gives("keeps 5", "true");
    }

    private static void keepsWithoutPath() {
        for (String text : new String[] {"0", "1", "p", "X0", "G0", "F0", "0U0", "0R0"}) {
            Run x = new Run("link 0 1 true").formula(text);
            for (int s = 0; s <= 5; s++) {
                x.gives("keeps " + s, "true");
            }
            x.gives("breaking", "0");
            x.gives("keeping", "0");
            x.hasNoWitness(0);
            x.hasNoWitness(1);
        }
    }

    private static void keepsWithoutFormula() {
        for (Run x : new Run[] {new Run(), allLinked(), new Run("link 0 0 true").text("p")}) {
            for (int s = 0; s <= 5; s++) {
                x.refuses("keeps " + s, NO_FORMULA);
            }
            x.refuses("keeps " + MIN, NO_FORMULA);
            x.refuses("keeps " + MAX, NO_FORMULA);
        }
        Run now = new Run("link 0 0 true").formula("p");
        now.gives("keeps 0", "false");
        now.gives("keeps 5", "true");
    }

    private static void statesOfKeeps() {
        Run[] runs = {new Run().formula("0"), busy(), full()};
        for (Run x : runs) {
            for (int s : NO_STATES) {
                x.refuses("keeps " + s, NO_PLACE);
            }
        }
        allLinked().formula("1").gives("keeps 0", "true");
        allLinked().formula("1").gives("keeps 5", "true");
        allLinked().formula("0").refuses("keeps 0", "false");
        allLinked().formula("0").refuses("keeps 5", "false");
    }

    private static void setsOfBreaking() {
        new Run().formula("0").gives("breaking", "0");
        allLinked().formula("1").gives("breaking", "0");
        allLinked().formula("0").gives("breaking", "63");
        allLinked().all("mark 2 1").formula("p").gives("breaking", "59");
        allLinked().all("mark 2 1").formula("GFp").gives("breaking", "63");
    }

    private static void setsOfKeeping() {
        new Run().formula("1").gives("keeping", "0");
        allLinked().formula("0").gives("keeping", "0");
        allLinked().formula("1").gives("keeping", "63");
        allLinked().all("mark 2 1").formula("p").gives("keeping", "4");
        allLinked().all("mark 2 1").formula("GFp").gives("keeping", "63");
        allLinked().all("mark 2 1").formula("Gp").gives("keeping", "4");
    }

    private static void bitsOfSets() {
        for (int s = 0; s <= 5; s++) {
            Run x = new Run("link " + s + " " + s + " true").formula("0");
            x.gives("breaking", "" + (1 << s));
            x.gives("keeping", "0");
            x.formula("1");
            x.gives("breaking", "0");
            x.gives("keeping", "" + (1 << s));
        }
    }

    private static void placesOfWitness() {
        Run one = new Run("link 5 5 true").formula("0");
        one.gives("witness 5 -2", "0");
        one.gives("witness 5 -1", "1");
        one.gives("witness 5 0", "5");
        Run six = roundAndOut(3);
        six.gives("witness 0 -2", "5");
        six.gives("witness 0 -1", "6");
        six.gives("witness 0 0", "0");
        six.gives("witness 0 5", "3");
        for (int k : new int[] {MIN, MIN + 5, -256, -6, -4, -3, 6, 7, 8, 32, 256, 65536, MAX}) {
            one.refuses("witness 5 " + k, "-1");
            six.refuses("witness 0 " + k, "-1");
        }
        for (int k = 1; k <= 5; k++) {
            one.refuses("witness 5 " + k, "-1");
        }
        // Behind the six of one state, the one of another one has no state 5.
        six.gives("witness 0 5", "3");
        six.refuses("witness 1 5", "-1");
        six.gives("witness 1 4", "3");
        six.gives("witness 0 5", "3");
    }

    private static void statesOfWitness() {
        Run[] runs = {new Run().formula("0"), busy(), full()};
        for (Run x : runs) {
            for (int s : NO_STATES) {
                for (int k : new int[] {MIN, -3, -2, -1, 0, 5, 6, MAX}) {
                    x.refuses("witness " + s + " " + k, "-1");
                }
            }
        }
    }

    private static void witnessWithoutFormula() {
        for (Run x : new Run[] {new Run(), allLinked(), new Run("link 0 0 true").text("0")}) {
            for (int s : new int[] {MIN, -1, 0, 5, 6, MAX}) {
                for (int k : new int[] {MIN, -3, -2, -1, 0, 5, 6, MAX}) {
                    x.refuses("witness " + s + " " + k, NO_FORMULA);
                }
            }
        }
        Run now = new Run("link 0 0 true").formula("0");
        now.gives("witness 0 -1", "1");
        now.gives("witness 6 -1", "-1");
    }

    private static void noWitness() {
        Run[] runs = {
            allLinked().formula("1"), new Run("link 0 1 true").formula("0"), roundAndOut(4)
        };
        for (Run x : runs) {
            for (int k : new int[] {MIN, -3, -2, -1, 0, 1, 5, 6, MAX}) {
                x.refuses("witness 0 " + k, "-1");
            }
        }
    }

    // Promises 15 to 17

    private static void promisesOfRows() {
        test("15: State s is added to the row: how many there are", () -> goAddsStates());
        test("15: NONE if there is none such", () -> statesOfGo());
        test("15: or there are eight", () -> eightOfOneState());
        test("16: The row becomes empty.", () -> clear());
        test("17: Whether the formula holds at place i of the path", () -> judgeAtEachPlace());
        test("17: when its last state goes on at place j", () -> goesOnAtJ());
        test("17: IllegalStateException if there is no formula", () -> judgeWithoutFormula());
        test("17: or the row is empty", () -> judgeOfEmptyRow());
        test("17: IndexOutOfBoundsException if i or j is no place of the row",
                () -> placesOfJudge());
        test("17: UnsupportedOperationException if a state is not linked to the next one",
                () -> rowThatIsNotLinked());
        test("17: or the last one not to that at place j", () -> lastThatIsNotLinked());
    }

    private static void goAddsStates() {
        Run x = allLinked().all("mark 5 1").formula("p");
        int[] row = {5, 0, 5, 5, 0, 0, 0, 5};
        for (int count = 1; count <= 8; count++) {
            x.gives("go " + row[count - 1], "" + count);
            for (int place = 0; place < count; place++) {
                x.gives("judge 0 " + place, "" + (row[place] == 5));
            }
            x.refuses("judge 0 " + count, NO_PLACE);
        }
    }

    private static void statesOfGo() {
        for (Run base : bases()) {
            for (int s : NO_STATES) {
                base.refuses("go " + s, "-1");
            }
        }
        for (int count = 0; count < 8; count++) {
            Run x = new Run();
            for (int k = 0; k < count; k++) {
                x.make("go 3");
            }
            x.refuses("go -1", "-1");
            x.refuses("go 6", "-1");
            x.gives("go 0", "" + (count + 1));
            x.gives("go 5", count < 7 ? "" + (count + 2) : "-1");
        }
    }

    private static void eightOfOneState() {
        for (int s = 0; s <= 5; s++) {
            Run x = new Run("link " + s + " " + s + " true").formula("1");
            for (int count = 1; count <= 8; count++) {
                x.gives("go " + s, "" + count);
            }
            x.refuses("go " + s, "-1");
            x.gives("go " + s, "-1");
            x.gives("judge 7 7", "true");
            x.refuses("judge 8 0", NO_PLACE);
            x.gives("clear", "done");
            x.gives("go " + s, "1");
        }
    }

    private static void clear() {
        new Run("clear").looksLike(new Run(), "clear of a new object");
        busy().all("clear").looksLike(busyBut(false, true), "clear, but for the row");
        busy().all("clear", "clear").looksLike(busyBut(false, true), "clear of an empty row");
        Run x = full();
        x.refuses("go 0", "-1");
        x.gives("clear", "done");
        x.refuses("judge 0 0", NO_FORMULA);
        x.gives("go 5", "1");
        x.refuses("judge 0 1", NO_PLACE);
        x.refuses("judge 1 0", NO_PLACE);
        for (int count = 2; count <= 8; count++) {
            x.gives("go 0", "" + count);
        }
        x.refuses("go 0", "-1");
    }

    private static void judgeAtEachPlace() {
        // A row of one, and one of eight.
        Run one = new Run("mark 4 1", "link 4 4 true", "go 4").formula("GXp");
        one.gives("judge 0 0", "true");
        Run eight = allLinked().all("mark 1 1").go(0, 0, 0, 0, 0, 0, 0, 1).formula("p");
        for (int i = 0; i <= 7; i++) {
            eight.gives("judge 0 " + i, "" + (i == 7));
            eight.gives("judge 7 " + i, "" + (i == 7));
        }
        eight.formula("GFp");
        eight.gives("judge 0 0", "true");
        eight.gives("judge 7 7", "true");
        eight.formula("F!p");
        eight.gives("judge 7 6", "true");
        eight.gives("judge 7 7", "false");
        eight.gives("judge 6 7", "true");
    }

    /** Rows of each length: what is for ever so is what lies from place j on. */
    private static void goesOnAtJ() {
        for (int count = 1; count <= 8; count++) {
            for (int marked = 0; marked < count; marked++) {
                Run x = allLinked().all("mark 5 1").formula("GFp");
                for (int place = 0; place < count; place++) {
                    x.make("go " + (place == marked ? 5 : place % 5));
                }
                for (int j = 0; j < count; j++) {
                    x.gives("judge " + j + " 0", "" + (marked >= j));
                    x.gives("judge " + j + " " + (count - 1), "" + (marked >= j));
                }
            }
        }
    }

    private static void judgeWithoutFormula() {
        Run x = new Run("link 0 0 true", "go 0");
        for (int j : new int[] {MIN, -1, 0, 1, 8, MAX}) {
            for (int i : new int[] {MIN, -1, 0, 1, 8, MAX}) {
                x.refuses("judge " + j + " " + i, NO_FORMULA);
            }
        }
        x.formula("1").gives("judge 0 0", "true");
    }

    private static void judgeOfEmptyRow() {
        Run x = allLinked().formula("1");
        for (int j : new int[] {MIN, -1, 0, 1, 8, MAX}) {
            for (int i : new int[] {MIN, -1, 0, 1, 8, MAX}) {
                x.refuses("judge " + j + " " + i, NO_FORMULA);
            }
        }
        x.make("go 0");
        x.gives("judge 0 0", "true");
        x.make("clear");
        x.refuses("judge 0 0", NO_FORMULA);
    }

    private static void placesOfJudge() {
        for (int count : new int[] {1, 2, 7, 8}) {
            Run x = allLinked().formula("1");
            for (int k = 0; k < count; k++) {
                x.make("go " + k % 6);
            }
            for (int k = 0; k < count; k++) {
                x.gives("judge " + k + " 0", "true");
                x.gives("judge 0 " + k, "true");
                x.gives("judge " + k + " " + k, "true");
            }
            int[] noPlaces = {MIN, MIN + 1, -256, -32, -2, -1, count, count + 1, 9, 32, 256, MAX};
            for (int bad : noPlaces) {
                x.refuses("judge " + bad + " 0", NO_PLACE);
                x.refuses("judge 0 " + bad, NO_PLACE);
                x.refuses("judge " + bad + " " + (count - 1), NO_PLACE);
                x.refuses("judge " + (count - 1) + " " + bad, NO_PLACE);
                x.refuses("judge " + bad + " " + bad, NO_PLACE);
                x.refuses("judge " + bad + " " + MIN, NO_PLACE);
                x.refuses("judge " + MAX + " " + bad, NO_PLACE);
            }
        }
    }

    private static void rowThatIsNotLinked() {
        for (int at = 0; at < 5; at++) {
            Run x = allLinked().go(0, 1, 2, 3, 4, 5).formula("1");
            x.gives("judge 5 0", "true");
            x.make("link " + at + " " + (at + 1) + " false");
            for (int j = 0; j <= 5; j++) {
                x.refuses("judge " + j + " 0", NOT_DONE);
                x.refuses("judge " + j + " 5", NOT_DONE);
            }
            x.make("link " + at + " " + (at + 1) + " true");
            x.gives("judge 5 0", "true");
        }
        // All eight are looked at: the last step, from place 6 to place 7, is the one that lacks.
        Run eight = allLinked().go(0, 0, 0, 0, 0, 0, 0, 5).formula("1");
        eight.gives("judge 7 7", "true");
        eight.make("link 0 5 false");
        eight.refuses("judge 7 7", NOT_DONE);
        eight.refuses("judge 0 0", NOT_DONE);
    }

    private static void lastThatIsNotLinked() {
        for (int j = 0; j <= 5; j++) {
            Run x = allLinked().go(0, 1, 2, 3, 4, 5).formula("1");
            x.gives("judge " + j + " 0", "true");
            x.make("link 5 " + j + " false");
            for (int k = 0; k <= 5; k++) {
                if (k == j) {
                    x.refuses("judge " + k + " 0", NOT_DONE);
                    x.refuses("judge " + k + " 5", NOT_DONE);
                } else {
                    x.gives("judge " + k + " 0", "true");
                }
            }
        }
        Run one = new Run("go 0").formula("1");
        one.refuses("judge 0 0", NOT_DONE);
        one.make("link 0 0 true");
        one.gives("judge 0 0", "true");
    }

    // Objects to begin with

    private static Run[] bases() {
        return new Run[] {new Run(), busy(), full()};
    }

    /** Something of each: a formula that some paths break, a text that is not done, a row. */
    private static Run busy() {
        return busyBut(false, false);
    }

    private static Run busyBut(boolean noText, boolean noRow) {
        Run x = new Run("mark 0 1", "mark 1 2", "mark 2 4", "mark 5 8");
        x.all("link 0 1 true", "link 1 2 true", "link 2 0 true", "link 2 2 true");
        x.all("link 3 4 true", "link 5 5 true").formula("GFp");
        if (!noRow) {
            x.go(0, 1, 2);
        }
        return noText ? x : x.text("!(r");
    }

    /** All marks and links, a row of eight, a text of 32, and the longest normal form. */
    private static Run full() {
        Run x = allLinked().go(0, 1, 2, 3, 4, 5, 0, 1);
        for (int s = 0; s <= 5; s++) {
            x.make("mark " + s + " 15");
        }
        return x.formula("FFFFFp" + "&p".repeat(13)).text("p&q&r&s&p&q&r&s&p&q&r&s&p&q&r&!s");
    }

    private static Run allLinked() {
        Run x = new Run();
        for (int k = 0; k < 36; k++) {
            x.make("link " + k / 6 + " " + k % 6 + " true");
        }
        return x;
    }

    // Comparing

    private static String formOf(String text) {
        Run x = new Run().formula(text);
        StringBuilder form = new StringBuilder();
        int size = Integer.parseInt(x.make("normal -1"));
        for (int k = 0; k < size; k++) {
            form.append((char) Integer.parseInt(x.make("normal " + k)));
        }
        return form.toString();
    }

    private static void isFormulaIf(boolean is, String text, String form) {
        if (is) {
            isFormula(text, timedIn(text), form);
        } else {
            isNoFormula(text);
        }
    }

    private static void isFormula(String text, int timed, String form) {
        Run x = new Run().text(text);
        x.gives("formula", "" + timed);
        x.gives("length", "0");
        x.hasForm(form);
    }

    private static void isNoFormula(String text) {
        new Run().text(text).refuses("formula", NOT_READ);
        busyBut(true, false).text(text).refuses("formula", NOT_READ);
    }

    private static void isNotModest(String text) {
        new Run().text(text).refuses("formula", NOT_DONE);
        busyBut(true, false).text(text).refuses("formula", NOT_DONE);
    }

    private static void holds(Run x, String text, boolean is) {
        x.formula(text);
        x.gives("judge 0 0", "" + is);
        x.gives("keeps 0", "" + is);
        x.gives("breaking", is ? "0" : "1");
        x.gives("keeping", is ? "1" : "0");
    }

    private static void judged(Run x, String text, int j, int i, boolean is) {
        x.formula(text).gives("judge " + j + " " + i, "" + is);
        x.formula("!(" + text + ")").gives("judge " + j + " " + i, "" + !is);
    }

    private static void due(String what, String found, String want) {
        if (!found.equals(want)) {
            tellWrong(what, found, want);
        }
    }

    private static void tellWrong(String what, String found, String want) {
        wrong++;
        System.out.println("\"" + sentence + "\": " + what + ": " + found + ", due is " + want);
        if (wrong == WRONG_LIMIT) {
            System.out.println("boundaries: more than enough is wrong, the rest is not tried");
            System.exit(1);
        }
    }

    /** An object with the calls that were made on it, so that a twin of it can be made. */
    private static final class Run {
        private final PathChecker x = new PathChecker();
        private final List<String> calls = new ArrayList<>();
        /** What a twin shows, until the next call. */
        private List<String> shown;

        Run(String... calls) {
            all(calls);
        }

        Run all(String... more) {
            for (String call : more) {
                make(call);
            }
            return this;
        }

        Run text(String text) {
            for (int from = 0; from < text.length(); from += 8) {
                gives("type " + text.substring(from, Math.min(from + 8, text.length())), "true");
            }
            return this;
        }

        Run formula(String text) {
            text(text).make("formula");
            return this;
        }

        Run go(int... states) {
            for (int s : states) {
                make("go " + s);
            }
            return this;
        }

        Run twin() {
            return new Run(calls.toArray(new String[0]));
        }

        boolean hasCallsLeft(int count) {
            return calls.size() + count <= CALL_LIMIT;
        }

        String make(String call) {
            if (!hasCallsLeft(1)) {
                throw new IllegalStateException("more calls than an object is used for");
            }
            calls.add(call);
            shown = null;
            return answer(x, call);
        }

        void gives(String call, String want) {
            due(call, make(call), want);
        }

        /** The call is made on a twin, and is made in vain. */
        void refuses(String call, String want) {
            Run with = twin();
            with.gives(call, want);
            with.looksLike(this, call);
        }

        /** Makes many calls on this object; the other one stays as it is. */
        void looksLike(Run other, String what) {
            if (other.shown == null) {
                other.shown = other.twin().show();
            }
            List<String> mine = show();
            for (int k = 0; k < Math.max(mine.size(), other.shown.size()); k++) {
                String one = k < mine.size() ? mine.get(k) : "nothing";
                String two = k < other.shown.size() ? other.shown.get(k) : "nothing";
                if (!one.equals(two)) {
                    tellWrong("behind " + what, one, two);
                    return;
                }
            }
        }

        /** All that the calls can show of what the object holds. */
        private List<String> show() {
            List<String> found = new ArrayList<>();
            showFormulaAndStructure(found);
            showPaths(found);
            showText(found);
            showRow(found);
            return found;
        }

        private void showFormulaAndStructure(List<String> found) {
            tell(found, "length");
            for (int k = -1; k <= 37; k++) {
                tell(found, "normal " + k);
            }
            for (int s = 0; s <= 5; s++) {
                for (int b = -1; b <= 5; b++) {
                    tell(found, "state " + s + " " + b);
                }
            }
        }

        private void showPaths(List<String> found) {
            tell(found, "breaking");
            tell(found, "keeping");
            for (int s = 0; s <= 5; s++) {
                tell(found, "endless " + s);
                tell(found, "keeps " + s);
                for (int k = -2; k <= 5; k++) {
                    tell(found, "witness " + s + " " + k);
                }
            }
            for (int place = 0; place <= 8; place++) {
                tell(found, "judge " + place + " 0");
                tell(found, "judge 0 " + place);
                tell(found, "judge 2 " + place);
            }
        }

        /** A text shows in the formula that it is, or becomes by a character or two more. */
        private void showText(List<String> found) {
            for (String call : new String[] {"formula", "type p", "formula", "type )", "formula"}) {
                tell(found, call);
            }
            for (int k = -1; k <= 37; k++) {
                tell(found, "normal " + k);
            }
        }

        /** Each state gets marks of its own, by which the row tells its states. */
        private void showRow(List<String> found) {
            make("wipe");
            for (int k = 0; k < 36; k++) {
                make("link " + k / 6 + " " + k % 6 + " true");
            }
            for (int s = 0; s <= 5; s++) {
                make("mark " + s + " " + (s + 1));
            }
            for (String letter : new String[] {"p", "q", "r"}) {
                formula(letter);
                for (int place = 0; place <= 7; place++) {
                    tell(found, "judge 0 " + place);
                }
            }
            tell(found, "go 0");
        }

        private void tell(List<String> found, String call) {
            found.add(call + " gives " + make(call));
        }

        void hasForm(String form) {
            gives("normal -1", "" + form.length());
            for (int k = 0; k < form.length(); k++) {
                gives("normal " + k, "" + (int) form.charAt(k));
            }
            gives("normal " + form.length(), "-1");
        }

        void hasWitness(int s, String states, int j) {
            gives("witness " + s + " -1", "" + states.length());
            gives("witness " + s + " -2", "" + j);
            for (int k = 0; k < states.length(); k++) {
                gives("witness " + s + " " + k, "" + states.charAt(k));
            }
            gives("witness " + s + " " + states.length(), "-1");
            gives("witness " + s + " -3", "-1");
        }

        void hasNoWitness(int s) {
            for (int k = -3; k <= 6; k++) {
                gives("witness " + s + " " + k, "-1");
            }
        }

        private static String answer(PathChecker x, String call) {
            String[] words = call.split(" ");
            try {
                return "" + answerOf(x, words);
            } catch (RuntimeException e) {
                return "throws." + e.getClass().getSimpleName();
            }
        }

        private static Object answerOf(PathChecker x, String[] words) {
            switch (words[0]) {
                case "part":
                    return x.type(Long.parseLong(words[1]));
                case "type":
                    return x.type(pack(words[1]));
                case "wipe":
                    x.wipe();
                    return "done";
                case "length":
                    return x.length();
                case "formula":
                    return x.formula();
                case "breaking":
                    return x.breaking();
                case "keeping":
                    return x.keeping();
                case "clear":
                    x.clear();
                    return "done";
                default:
                    return answerOfNumbers(x, words, Integer.parseInt(words[1]));
            }
        }

        private static Object answerOfNumbers(PathChecker x, String[] words, int first) {
            int second = words.length > 2 ? Integer.parseInt(words[2]) : 0;
            switch (words[0]) {
                case "normal":
                    return x.normal(first);
                case "mark":
                    return x.mark(first, second);
                case "link":
                    return x.link(first, second, Boolean.parseBoolean(words[3]));
                case "state":
                    return x.state(first, second);
                case "endless":
                    return x.endless(first);
                case "keeps":
                    return x.keeps(first);
                case "witness":
                    return x.witness(first, second);
                case "go":
                    return x.go(first);
                case "judge":
                    return x.judge(first, second);
                default:
                    throw new IllegalArgumentException("no such call: " + words[0]);
            }
        }

        private static long pack(String text) {
            long part = 0;
            for (char sign : text.toCharArray()) {
                part = part << 8 | sign;
            }
            return part;
        }
    }
}
