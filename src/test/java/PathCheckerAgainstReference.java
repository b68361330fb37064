import java.util.ArrayList;
import java.util.List;
import java.util.Random;

/**
 * Compares the program with a plain reference on many chosen formulas and structures, and on runs
 * of any calls in any order. The reference reads by the grammar, judges by the words of the
 * document, tries all lassos, and looks at every pair of nodes of the tableau of the formula as it
 * stands, without its normal form. Where the structure is tiny, trying all lassos takes the
 * tableau's place.
 */
public final class PathCheckerAgainstReference {
    private static final int STATES = 6;
    private static final int CALLS = 512;
    /** On two states, two timed operators have not been seen to ask for a longer one. */
    private static final int LONG_LASSO = 9;
    private static int wrong = 0;

    public static void main(String[] args) {
        // A fixed start, so that each run tries the same.
        Random random = new Random(20261115L);
        for (int run = 0; run < 1500; run++) {
            runOnce(random);
        }
        for (int run = 0; run < 2000; run++) {
            // One object for some texts, so that none may leave a trace for the next one.
            PathChecker x = new PathChecker();
            for (int turn = 0; turn < 6; turn++) {
                compareReading(x, randomText(random));
            }
        }
        for (int run = 0; run < 400; run++) {
            compareTinyStructure(random);
        }
        for (int run = 0; run < 400; run++) {
            new AnyCalls(random).compare();
        }
        System.out.println(wrong == 0 ? "reference: all as due" : "reference: " + wrong + " wrong");
        if (wrong != 0) {
            System.exit(1);
        }
    }

    private static void runOnce(Random random) {
        PathChecker x = new PathChecker();
        int[] marks = new int[STATES];
        boolean[][] links = new boolean[STATES][STATES];
        int density = 1 + random.nextInt(6);
        int used = 1 + random.nextInt(STATES);
        for (int a = 0; a < used; a++) {
            setMarks(x, marks, a, random.nextInt(16) & random.nextInt(16));
            for (int b = 0; b < used; b++) {
                setLink(x, links, a, b, random.nextInt(6) < density);
            }
        }
        Node root = compareReading(x, randomFormula(random));
        if (root != null) {
            compareStructure(x, root, marks, links, random);
        }
        // Either the structure or the formula changes, or both; more would pass 512 calls.
        int change = random.nextInt(3);
        if (change > 0) {
            setMarks(x, marks, random.nextInt(STATES), random.nextInt(16));
            int a = random.nextInt(used);
            int b = random.nextInt(used);
            setLink(x, links, a, b, !links[a][b]);
        }
        if (change < 2) {
            Node next = compareReading(x, randomFormula(random));
            root = next == null ? root : next;
        }
        if (root != null) {
            compareStructure(x, root, marks, links, random);
        }
    }

    private static void setMarks(PathChecker x, int[] marks, int s, int value) {
        marks[s] = value;
        due("mark", x.mark(s, value), true);
    }

    private static void setLink(PathChecker x, boolean[][] links, int a, int b, boolean is) {
        due("link", x.link(a, b, is), links[a][b] != is);
        links[a][b] = is;
    }

    /** Takes the text as the formula; its tree, or null if it is none or not modest. */
    private static Node compareReading(PathChecker x, String text) {
        x.wipe();
        for (int i = 0; i < text.length(); i++) {
            due("type", x.type(text.charAt(i)), true);
        }
        Node root = new Grammar(text).read();
        int timed = root == null ? 0 : root.timed();
        String want = root == null ? "java.lang.IllegalArgumentException"
                : timed > 5 ? "java.lang.UnsupportedOperationException" : "" + timed;
        String found;
        try {
            found = "" + x.formula();
        } catch (RuntimeException e) {
            found = e.getClass().getName();
        }
        due("formula " + text, found, want);
        if (root == null || timed > 5) {
            due("text of " + text, x.length(), text.length());
            return null;
        }
        String form = root.normal(false);
        due("normal(-1) of " + text, x.normal(-1), form.length());
        for (int k = 0; k < form.length(); k++) {
            due("normal(" + k + ") of " + text, x.normal(k), (int) form.charAt(k));
        }
        return root;
    }

    private static void compareStructure(
            PathChecker x, Node root, int[] marks, boolean[][] links, Random random) {
        String told = root.normal(false) + " marks " + java.util.Arrays.toString(marks)
                + " links " + java.util.Arrays.deepToString(links);
        Tableau tableau = new Tableau(root, marks, links);
        int breaking = tableau.statesWith(false);
        int keeping = tableau.statesWith(true);
        due("breaking " + told, x.breaking(), breaking);
        due("keeping " + told, x.keeping(), keeping);
        for (int s = 0; s < STATES; s++) {
            due("keeps " + s + " " + told, x.keeps(s), (breaking >> s & 1) == 0);
            due("endless " + s + " " + told, x.endless(s), ((breaking | keeping) >> s & 1) == 1);
            List<Integer> lasso = Lassos.first(root, marks, links, s);
            for (int k = -3; k <= 7; k++) {
                String call = "witness " + s + " " + k + " " + told;
                due(call, x.witness(s, k), Lassos.answer(lasso, k));
            }
        }
        certify(tableau, root, marks, links, told);
        compareWalks(breaking, keeping, root, marks, links, random);
        compareJudging(x, root, marks, links, random);
    }

    /** Each state of the two sets has a lasso, however long, that shows it by the words alone. */
    private static void certify(
            Tableau tableau, Node root, int[] marks, boolean[][] links, String told) {
        for (int k = 0; k < 2 * STATES; k++) {
            boolean keeping = k % 2 == 1;
            boolean isIn = (tableau.statesWith(keeping) >> k / 2 & 1) == 1;
            List<Integer> lasso = tableau.lassoOf(k / 2, keeping);
            due("a lasso from " + k / 2 + " for " + told, lasso != null, isIn);
            if (lasso != null) {
                int[] row = lasso.stream().mapToInt(node -> node).toArray();
                int count = row.length - 1;
                int j = row[count];
                String what = "lasso " + lasso + (keeping ? " keeps " : " breaks ") + told;
                due(what + " from", row[0], k / 2);
                due(what + " linked", Lassos.isLinked(row, count, j, links), true);
                due(what, root.along(row, count, j, marks)[0], keeping);
            }
        }
    }

    /** No lasso that is found by walking about begins at a state that is not in its set. */
    private static void compareWalks(int breaking, int keeping, Node root, int[] marks,
            boolean[][] links, Random random) {
        for (int walk = 0; walk < 60; walk++) {
            int[] row = Lassos.walk(links, random);
            int count = row.length;
            for (int j = 0; j < count; j++) {
                if (Lassos.isLinked(row, count, j, links)) {
                    boolean keeps = root.along(row, count, j, marks)[0];
                    int set = keeps ? keeping : breaking;
                    due((keeps ? "keeping" : "breaking") + " has the start of "
                            + java.util.Arrays.toString(row) + " j" + j + " by "
                            + root.normal(false), set >> row[0] & 1, 1);
                }
            }
        }
    }

    private static void compareJudging(
            PathChecker x, Node root, int[] marks, boolean[][] links, Random random) {
        x.clear();
        int count = 1 + random.nextInt(8);
        int[] row = new int[count];
        for (int place = 0; place < count; place++) {
            row[place] = random.nextInt(STATES);
            // Mostly a row that is linked, as one by chance hardly ever is.
            for (int more = 0; more < 12 && place > 0; more++) {
                if (!links[row[place - 1]][row[place]]) {
                    row[place] = random.nextInt(STATES);
                }
            }
            due("go", x.go(row[place]), place + 1);
        }
        for (int j = 0; j < count; j++) {
            boolean linked = Lassos.isLinked(row, count, j, links);
            boolean[] holds = linked ? root.along(row, count, j, marks) : null;
            for (int i = 0; i < count; i++) {
                String found;
                try {
                    found = "" + x.judge(j, i);
                } catch (RuntimeException e) {
                    found = e.getClass().getName();
                }
                String want = linked ? "" + holds[i] : "java.lang.UnsupportedOperationException";
                due("judge(" + j + ", " + i + ") " + root.normal(false), found, want);
            }
        }
    }

    /** Two states, at most two timed operators: the sets come from all lassos, not by guesses. */
    private static void compareTinyStructure(Random random) {
        PathChecker x = new PathChecker();
        int[] marks = new int[STATES];
        boolean[][] links = new boolean[STATES][STATES];
        for (int k = 0; k < 4; k++) {
            setMarks(x, marks, k / 2, random.nextInt(16));
            setLink(x, links, k / 2, k % 2, random.nextInt(4) > 0);
        }
        Node root = compareReading(x, randomFormula(random));
        if (root == null || root.timed() > 2) {
            return;
        }
        String told = root.normal(false) + " marks " + marks[0] + " " + marks[1] + " links "
                + java.util.Arrays.toString(links[0]) + java.util.Arrays.toString(links[1]);
        due("breaking by lassos " + told, x.breaking(), Lassos.starts(root, marks, links, false));
        due("keeping by lassos " + told, x.keeping(), Lassos.starts(root, marks, links, true));
    }

    private static String randomFormula(Random random) {
        for (int attempt = 0; attempt < 1000; attempt++) {
            String text = randomPart(random, 2 + random.nextInt(4));
            if (text.length() <= 32) {
                return text;
            }
        }
        return "p";
    }

    private static String randomPart(Random random, int depth) {
        if (depth == 0) {
            return "" + "ppqqrrss10".charAt(random.nextInt(10));
        }
        int kind = random.nextInt(12);
        if (kind < 5) {
            String below = randomPart(random, depth - 1);
            boolean plain = below.length() == 1 || random.nextInt(4) == 0;
            return "!XFGF".charAt(kind) + (plain ? below : "(" + below + ")");
        }
        if (kind < 10) {
            return wrapped(random, depth) + "&|URU".charAt(kind - 5) + wrapped(random, depth);
        }
        if (kind == 10) {
            return randomPart(random, 0);
        }
        return wrapped(random, depth) + ">" + wrapped(random, depth);
    }

    private static String wrapped(Random random, int depth) {
        String part = randomPart(random, random.nextInt(depth));
        return part.length() == 1 || random.nextBoolean() ? part : "(" + part + ")";
    }

    /** Half of them formulas with a slip, half of them any characters that a formula may have. */
    private static String randomText(Random random) {
        StringBuilder text = new StringBuilder();
        if (random.nextBoolean()) {
            text.append(randomFormula(random));
            int at = random.nextInt(text.length());
            if (random.nextBoolean()) {
                text.deleteCharAt(at);
            } else {
                text.setCharAt(at, "!XFG()pqrs10UR&|>".charAt(random.nextInt(17)));
            }
            return text.toString();
        }
        int count = random.nextInt(9);
        for (int i = 0; i < count; i++) {
            text.append("!XFG()pq1UR&|>a".charAt(random.nextInt(15)));
        }
        return text.toString();
    }

    private static void due(String what, Object found, Object want) {
        if (!found.equals(want)) {
            wrong++;
            if (wrong < 40) {
                System.out.println(what + ": " + found + ", due is " + want);
            }
        }
    }

    /** A part of a formula, as it was written. */
    private record Node(char sign, Node a, Node b) {
        boolean isTimed() {
            return "XFGUR".indexOf(sign) >= 0;
        }

        int timed() {
            return (isTimed() ? 1 : 0) + (a == null ? 0 : a.timed()) + (b == null ? 0 : b.timed());
        }

        String normal(boolean not) {
            switch (sign) {
                case '!': return a.normal(!not);
                case 'X': return "X" + a.normal(not);
                case 'F': return (not ? "R0" : "U1") + a.normal(not);
                case 'G': return (not ? "U1" : "R0") + a.normal(not);
                case '&': return (not ? "|" : "&") + a.normal(not) + b.normal(not);
                case '|': return (not ? "&" : "|") + a.normal(not) + b.normal(not);
                case 'U': return (not ? "R" : "U") + a.normal(not) + b.normal(not);
                case 'R': return (not ? "U" : "R") + a.normal(not) + b.normal(not);
                case '>': return (not ? "&" : "|") + a.normal(!not) + b.normal(not);
                case '1': return not ? "0" : "1";
                case '0': return not ? "1" : "0";
                default: return "" + (not ? "ABCD" : "pqrs").charAt("pqrs".indexOf(sign));
            }
        }

        /** Where it holds along a lasso, by the words of the document. */
        boolean[] along(int[] row, int count, int j, int[] marks) {
            boolean[] first = a == null ? null : a.along(row, count, j, marks);
            boolean[] second = b == null ? null : b.along(row, count, j, marks);
            boolean[] holds = new boolean[count];
            for (int i = 0; i < count; i++) {
                holds[i] = at(i, row, j, marks, first, second);
            }
            return holds;
        }

        private boolean at(
                int i, int[] row, int j, int[] marks, boolean[] first, boolean[] second) {
            int count = second != null ? second.length : first != null ? first.length : 0;
            switch (sign) {
                case '!': return !first[i];
                case '&': return first[i] && second[i];
                case '|': return first[i] || second[i];
                case '>': return !first[i] || second[i];
                case 'X': return first[i + 1 < count ? i + 1 : j];
                case 'F': return until(i, j, always(count), first);
                case 'G': return release(i, j, new boolean[count], first);
                case 'U': return until(i, j, first, second);
                case 'R': return release(i, j, first, second);
                case '1': return true;
                case '0': return false;
                default: return (marks[row[i]] >> "pqrs".indexOf(sign) & 1) == 1;
            }
        }

        private static boolean[] always(int count) {
            boolean[] all = new boolean[count];
            java.util.Arrays.fill(all, true);
            return all;
        }

        private static boolean until(int i, int j, boolean[] first, boolean[] second) {
            int place = i;
            for (int step = 0; step < 2 * first.length + 2; step++) {
                if (second[place]) {
                    return true;
                }
                if (!first[place]) {
                    return false;
                }
                place = place + 1 < first.length ? place + 1 : j;
            }
            return false;
        }

        private static boolean release(int i, int j, boolean[] first, boolean[] second) {
            int place = i;
            boolean released = false;
            for (int step = 0; step < 2 * first.length + 2; step++) {
                if (!second[place] && !released) {
                    return false;
                }
                released = released || first[place];
                place = place + 1 < first.length ? place + 1 : j;
            }
            return true;
        }
    }

    /** One method for each line of the grammar. */
    private static final class Grammar {
        private final String text;
        private int at = 0;
        private int depth = 0;

        Grammar(String text) {
            this.text = text;
        }

        Node read() {
            Node root = whole();
            return at == text.length() ? root : null;
        }

        private boolean takes(char sign) {
            boolean is = at < text.length() && text.charAt(at) == sign;
            at += is ? 1 : 0;
            return is;
        }

        private Node two(char sign, Node a, Node b) {
            return a == null || b == null ? null : new Node(sign, a, b);
        }

        private Node whole() {
            Node a = choice();
            return a != null && takes('>') ? two('>', a, whole()) : a;
        }

        private Node choice() {
            Node a = both();
            while (a != null && takes('|')) {
                a = two('|', a, both());
            }
            return a;
        }

        private Node both() {
            Node a = line();
            while (a != null && takes('&')) {
                a = two('&', a, line());
            }
            return a;
        }

        private Node line() {
            Node a = unit();
            if (a != null && takes('U')) {
                return two('U', a, line());
            }
            return a != null && takes('R') ? two('R', a, line()) : a;
        }

        private Node unit() {
            for (char sign : "!XFG".toCharArray()) {
                if (takes(sign)) {
                    Node a = unit();
                    return a == null ? null : new Node(sign, a, null);
                }
            }
            for (char sign : "pqrs10".toCharArray()) {
                if (takes(sign)) {
                    return new Node(sign, null, null);
                }
            }
            return takes('(') ? inParentheses() : null;
        }

        private Node inParentheses() {
            depth++;
            if (depth > 6) {
                return null;
            }
            Node a = whole();
            depth--;
            return takes(')') ? a : null;
        }
    }

    /** All lassos, one after another. */
    private static final class Lassos {
        static boolean isLinked(int[] row, int count, int j, boolean[][] links) {
            for (int place = 0; place + 1 < count; place++) {
                if (!links[row[place]][row[place + 1]]) {
                    return false;
                }
            }
            return links[row[count - 1]][row[j]];
        }

        /** The states of the witness and then j, or null. */
        static List<Integer> first(Node root, int[] marks, boolean[][] links, int s) {
            for (int n = 1; n <= 6; n++) {
                int[] row = new int[n];
                row[0] = s;
                List<Integer> found = from(root, marks, links, row, 1);
                if (found != null) {
                    return found;
                }
            }
            return null;
        }

        private static List<Integer> from(
                Node root, int[] marks, boolean[][] links, int[] row, int filled) {
            int n = row.length;
            if (filled < n) {
                for (int next = 0; next < STATES; next++) {
                    if (links[row[filled - 1]][next]) {
                        row[filled] = next;
                        List<Integer> found = from(root, marks, links, row, filled + 1);
                        if (found != null) {
                            return found;
                        }
                    }
                }
                return null;
            }
            for (int j = 0; j < n; j++) {
                if (links[row[n - 1]][row[j]] && !root.along(row, n, j, marks)[0]) {
                    List<Integer> found = new ArrayList<>();
                    for (int state : row) {
                        found.add(state);
                    }
                    found.add(j);
                    return found;
                }
            }
            return null;
        }

        /** As far as the links lead, but no more than 16 states. */
        static int[] walk(boolean[][] links, Random random) {
            int[] row = new int[1 + random.nextInt(16)];
            row[0] = random.nextInt(STATES);
            for (int place = 1; place < row.length; place++) {
                List<Integer> next = new ArrayList<>();
                for (int b = 0; b < STATES; b++) {
                    if (links[row[place - 1]][b]) {
                        next.add(b);
                    }
                }
                if (next.isEmpty()) {
                    return java.util.Arrays.copyOf(row, place);
                }
                row[place] = next.get(random.nextInt(next.size()));
            }
            return row;
        }

        /** Those of the states 0 and 1 from which some lasso's path keeps it, or breaks it. */
        static int starts(Node root, int[] marks, boolean[][] links, boolean keeping) {
            int found = 0;
            for (int n = 1; n <= LONG_LASSO; n++) {
                for (int bits = 0; bits < 1 << n; bits++) {
                    int[] row = new int[n];
                    for (int place = 0; place < n; place++) {
                        row[place] = bits >> place & 1;
                    }
                    for (int j = 0; j < n; j++) {
                        if (isLinked(row, n, j, links)
                                && root.along(row, n, j, marks)[0] == keeping) {
                            found |= 1 << row[0];
                        }
                    }
                }
            }
            return found;
        }

        static int answer(List<Integer> lasso, int k) {
            if (lasso == null || k < -2 || k >= lasso.size() - 1) {
                return -1;
            }
            int n = lasso.size() - 1;
            return k == -1 ? n : k == -2 ? lasso.get(n) : lasso.get(k);
        }
    }

    /** A call with its arguments; those that it does not have are left out of sight. */
    private record Call(String name, long a, int b, boolean is) {
        Object madeOn(PathChecker x) {
            int s = (int) a;
            switch (name) {
                case "type": return x.type(a);
                case "wipe": x.wipe(); return "done";
                case "length": return x.length();
                case "formula": return x.formula();
                case "normal": return x.normal(s);
                case "mark": return x.mark(s, b);
                case "link": return x.link(s, b, is);
                case "state": return x.state(s, b);
                case "endless": return x.endless(s);
                case "keeps": return x.keeps(s);
                case "breaking": return x.breaking();
                case "keeping": return x.keeping();
                case "witness": return x.witness(s, b);
                case "go": return x.go(s);
                case "clear": x.clear(); return "done";
                default: return x.judge(s, b);
            }
        }

        Object madeOn(Model x) {
            int s = (int) a;
            switch (name) {
                case "type": return x.type(a);
                case "wipe": x.text = ""; return "done";
                case "length": return x.text.length();
                case "formula": return x.formula();
                case "normal": return x.normal(s);
                case "mark": return x.mark(s, b);
                case "link": return x.link(s, b, is);
                case "state": return x.state(s, b);
                case "endless": return x.endless(s);
                case "keeps": return x.keeps(s);
                case "breaking": return x.states(false);
                case "keeping": return x.states(true);
                case "witness": return x.witness(s, b);
                case "go": return x.go(s);
                case "clear": x.row.clear(); return "done";
                default: return x.judge(s, b);
            }
        }
    }

    /** The class by the words of the document; an exception is answered by its name. */
    private static final class Model {
        private static final String NO_FORMULA = "IllegalStateException";
        private static final String NO_PLACE = "IndexOutOfBoundsException";
        private static final String NOT_DONE = "UnsupportedOperationException";

        private String text = "";
        private Node root;
        private final int[] marks = new int[STATES];
        private final boolean[][] links = new boolean[STATES][STATES];
        private final List<Integer> row = new ArrayList<>();
        /** What is dear to find, until the formula or the structure changes. */
        private Tableau tableau;
        private final java.util.Map<Integer, List<Integer>> lassos = new java.util.HashMap<>();

        private void changed() {
            tableau = null;
            lassos.clear();
        }

        private static boolean isState(int s) {
            return s >= 0 && s <= 5;
        }

        boolean type(long part) {
            StringBuilder more = new StringBuilder();
            for (byte sign : java.nio.ByteBuffer.allocate(8).putLong(part).array()) {
                if (sign != 0 && (sign < 33 || sign > 126)) {
                    return false;
                }
                more.append(sign == 0 ? "" : "" + (char) sign);
            }
            boolean fits = text.length() + more.length() <= 32;
            text += fits ? more : "";
            return fits;
        }

        Object formula() {
            Node read = new Grammar(text).read();
            if (read == null) {
                return "IllegalArgumentException";
            }
            if (read.timed() > 5) {
                return NOT_DONE;
            }
            root = read;
            text = "";
            changed();
            return root.timed();
        }

        Object normal(int k) {
            if (root == null) {
                return NO_FORMULA;
            }
            String form = root.normal(false);
            return k == -1 ? form.length() : k >= 0 && k < form.length() ? form.charAt(k) : -1;
        }

        boolean mark(int s, int value) {
            if (!isState(s) || value < 0 || value > 15) {
                return false;
            }
            marks[s] = value;
            changed();
            return true;
        }

        boolean link(int a, int b, boolean is) {
            if (!isState(a) || !isState(b) || links[a][b] == is) {
                return false;
            }
            links[a][b] = is;
            changed();
            return true;
        }

        int state(int s, int b) {
            if (!isState(s) || b != -1 && !isState(b)) {
                return -1;
            }
            return b == -1 ? marks[s] : links[s][b] ? 1 : 0;
        }

        /** There is a path from s if one can make as many steps as there are states. */
        boolean endless(int s) {
            int ends = isState(s) ? 1 << s : 0;
            for (int step = 0; step < STATES; step++) {
                int next = 0;
                for (int k = 0; k < STATES * STATES; k++) {
                    if ((ends >> k / STATES & 1) == 1 && links[k / STATES][k % STATES]) {
                        next |= 1 << k % STATES;
                    }
                }
                ends = next;
            }
            return ends != 0;
        }

        Object states(boolean keeping) {
            if (root == null) {
                return NO_FORMULA;
            }
            if (tableau == null) {
                tableau = new Tableau(root, marks, links);
            }
            return tableau.statesWith(keeping);
        }

        Object keeps(int s) {
            if (root == null) {
                return NO_FORMULA;
            }
            return isState(s) ? (Object) (((int) states(false) >> s & 1) == 0) : NO_PLACE;
        }

        Object witness(int s, int k) {
            if (root == null) {
                return NO_FORMULA;
            }
            if (!isState(s)) {
                return -1;
            }
            if (!lassos.containsKey(s)) {
                lassos.put(s, Lassos.first(root, marks, links, s));
            }
            return Lassos.answer(lassos.get(s), k);
        }

        int go(int s) {
            if (!isState(s) || row.size() == 8) {
                return -1;
            }
            row.add(s);
            return row.size();
        }

        Object judge(int j, int i) {
            int count = row.size();
            if (root == null || count == 0) {
                return NO_FORMULA;
            }
            if (i < 0 || i >= count || j < 0 || j >= count) {
                return NO_PLACE;
            }
            int[] states = row.stream().mapToInt(s -> s).toArray();
            if (!Lassos.isLinked(states, count, j, links)) {
                return NOT_DONE;
            }
            return root.along(states, count, j, marks)[i];
        }
    }

    /** As many calls as an object is used for, in any order, right and wrong ones. */
    private static final class AnyCalls {
        /** A name comes as often as it stands here. */
        private static final String[] NAMES = {
            "type", "type", "type", "type", "type", "wipe", "length", "formula", "normal", "normal",
            "mark", "mark", "link", "link", "link", "link", "link", "link", "state", "endless",
            "keeps", "keeps", "breaking", "keeping", "witness", "witness", "witness", "witness",
            "go", "go", "go", "go", "go", "clear", "judge", "judge", "judge", "judge"
        };
        private static final int[] FAR = {
            Integer.MIN_VALUE, -32, -3, -2, -1, 6, 7, 8, 9, 16, 32, 37, 38, 256, Integer.MAX_VALUE
        };

        private final PathChecker x = new PathChecker();
        private final Model model = new Model();
        private final StringBuilder told = new StringBuilder();
        private final Random random;
        /** How likely a link is set rather than taken away, of 8. */
        private final int density;
        /** What is still to be typed of a text. */
        private String rest = "";
        private boolean typedAll = false;

        AnyCalls(Random random) {
            this.random = random;
            density = 4 + random.nextInt(5);
        }

        void compare() {
            for (int count = 0; count < CALLS; count++) {
                Call call = next();
                told.append(call.name).append(' ').append(call.a).append(' ').append(call.b)
                        .append(' ').append(call.is).append("; ");
                Object answer = call.madeOn(model);
                String want = answer instanceof Character sign ? "" + (int) sign : "" + answer;
                String found;
                try {
                    found = "" + call.madeOn(x);
                } catch (RuntimeException e) {
                    found = e.getClass().getSimpleName();
                }
                if (!found.equals(want)) {
                    due("any calls: " + told, found, want);
                    return;
                }
            }
        }

        private Call next() {
            String name = NAMES[random.nextInt(NAMES.length)];
            switch (name) {
                case "type": return typing();
                case "normal": return new Call(name, number(-1, 12), 0, false);
                case "mark": return new Call(name, number(0, 5), number(0, 15), false);
                case "link":
                    return new Call(name, number(0, 5), number(0, 5), random.nextInt(8) < density);
                case "state": return new Call(name, number(0, 5), number(-1, 5), false);
                case "witness": return new Call(name, number(0, 5), number(-2, 5), false);
                case "go": return new Call(name, stateToGo(), 0, false);
                case "judge":
                    int last = Math.max(model.row.size() - 1, 0);
                    return new Call(name, number(0, last), number(0, last), false);
                default: return new Call(name, number(0, 5), 0, false);
            }
        }

        private int number(int least, int most) {
            return random.nextInt(12) == 0
                    ? FAR[random.nextInt(FAR.length)] : least + random.nextInt(most - least + 1);
        }

        /** Mostly one that the last of the row is linked to, so that the row can be judged. */
        private int stateToGo() {
            int s = number(0, 5);
            int count = model.row.size();
            for (int more = 0; more < 8 && count > 0; more++) {
                if (model.state(model.row.get(count - 1), s) == 1) {
                    return s;
                }
                s = number(0, 5);
            }
            return s;
        }

        /** A text is typed part by part, then taken as the formula, then wiped if it stays. */
        private Call typing() {
            if (random.nextInt(24) == 0) {
                long part = random.nextBoolean() ? random.nextLong() : random.nextInt(256);
                return new Call("type", part, 0, false);
            }
            if (rest.isEmpty() && typedAll) {
                typedAll = false;
                return new Call("formula", 0, 0, false);
            }
            if (rest.isEmpty() && !model.text.isEmpty() && random.nextInt(4) > 0) {
                return new Call("wipe", 0, 0, false);
            }
            if (rest.isEmpty()) {
                rest = random.nextInt(4) == 0 ? randomText(random) : randomFormula(random);
            }
            return new Call("type", partOfRest(), 0, false);
        }

        private long partOfRest() {
            long part = 0;
            for (int at = 0; at < 8; at++) {
                part <<= 8;
                if (!rest.isEmpty() && random.nextInt(6) > 0) {
                    part |= rest.charAt(0);
                    rest = rest.substring(1);
                }
            }
            typedAll = rest.isEmpty();
            return part;
        }
    }

    /** States with a guess for each timed operator, as written; steps forward, pair by pair. */
    private static final class Tableau {
        private final List<Node> timed = new ArrayList<>();
        private final Node root;
        private final int[] marks;
        private final int guesses;
        private final int nodes;
        private final boolean[][] steps;
        /** Row u: the nodes that u reaches in one step or more. */
        private final long[][] reach;

        Tableau(Node root, int[] marks, boolean[][] links) {
            this.root = root;
            this.marks = marks;
            collect(root);
            guesses = 1 << timed.size();
            nodes = STATES * guesses;
            steps = new boolean[nodes][nodes];
            reach = new long[nodes][3];
            for (int u = 0; u < nodes; u++) {
                for (int w = 0; w < nodes; w++) {
                    if (links[u / guesses][w / guesses] && follows(u, w)) {
                        steps[u][w] = true;
                        reach[u][w >> 6] |= 1L << w;
                    }
                }
            }
            for (int mid = 0; mid < nodes; mid++) {
                for (int u = 0; u < nodes; u++) {
                    if (reaches(u, mid)) {
                        for (int i = 0; i < 3; i++) {
                            reach[u][i] |= reach[mid][i];
                        }
                    }
                }
            }
        }

        private void collect(Node node) {
            if (node != null) {
                if (node.isTimed()) {
                    timed.add(node);
                }
                collect(node.a);
                collect(node.b);
            }
        }

        private boolean reaches(int u, int w) {
            return (reach[u][w >> 6] >>> w & 1) == 1;
        }

        private int numberOf(Node node) {
            for (int i = 0; i < timed.size(); i++) {
                // Two equal parts are two guesses; records would call them one.
                if (timed.get(i) == node) {
                    return i;
                }
            }
            throw new AssertionError();
        }

        private boolean holds(Node node, int u) {
            if (node.isTimed()) {
                return (u % guesses >> numberOf(node) & 1) == 1;
            }
            switch (node.sign) {
                case '!': return !holds(node.a, u);
                case '&': return holds(node.a, u) && holds(node.b, u);
                case '|': return holds(node.a, u) || holds(node.b, u);
                case '>': return !holds(node.a, u) || holds(node.b, u);
                case '1': return true;
                case '0': return false;
                default: return (marks[u / guesses] >> "pqrs".indexOf(node.sign) & 1) == 1;
            }
        }

        private boolean follows(int u, int w) {
            for (Node node : timed) {
                boolean due;
                switch (node.sign) {
                    case 'X': due = holds(node.a, w); break;
                    case 'F': due = holds(node.a, u) || holds(node, w); break;
                    case 'G': due = holds(node.a, u) && holds(node, w); break;
                    case 'U': due = holds(node.b, u) || (holds(node.a, u) && holds(node, w)); break;
                    default: due = holds(node.b, u) && (holds(node.a, u) || holds(node, w)); break;
                }
                if (holds(node, u) != due) {
                    return false;
                }
            }
            return true;
        }

        private boolean isPrompt(Node node, int u) {
            switch (node.sign) {
                case 'F': return !holds(node, u) || holds(node.a, u);
                case 'G': return holds(node, u) || !holds(node.a, u);
                case 'U': return !holds(node, u) || holds(node.b, u);
                case 'R': return holds(node, u) || !holds(node.b, u);
                default: return true;
            }
        }

        private boolean turnsForEver(int u) {
            if (!reaches(u, u)) {
                return false;
            }
            for (Node node : timed) {
                boolean found = false;
                for (int w = 0; w < nodes && !found; w++) {
                    found = reaches(u, w) && reaches(w, u) && isPrompt(node, w);
                }
                if (!found) {
                    return false;
                }
            }
            return true;
        }

        /** The states of a lasso from s that keeps or breaks the formula and its j, or null. */
        List<Integer> lassoOf(int s, boolean keeping) {
            for (int u = s * guesses; u < (s + 1) * guesses; u++) {
                for (int w = 0; w < nodes && holds(root, u) == keeping; w++) {
                    if ((u == w || reaches(u, w)) && turnsForEver(w)) {
                        return lassoBy(u, w);
                    }
                }
            }
            return null;
        }

        /** From u to w and then round, by a node for each timed operator at which it is prompt. */
        private List<Integer> lassoBy(int u, int w) {
            List<Integer> row = new ArrayList<>(List.of(u));
            if (u != w) {
                row.addAll(way(u, w));
            }
            int j = row.size() - 1;
            for (Node node : timed) {
                int v = 0;
                while (!(reaches(w, v) && reaches(v, w) && isPrompt(node, v))) {
                    v++;
                }
                row.addAll(way(row.get(row.size() - 1), v));
            }
            row.addAll(way(row.get(row.size() - 1), w));
            row.set(row.size() - 1, j);
            for (int place = 0; place + 1 < row.size(); place++) {
                row.set(place, row.get(place) / guesses);
            }
            return row;
        }

        /** The nodes of a shortest way of one step or more, without the first. */
        private List<Integer> way(int u, int w) {
            int[] before = new int[nodes];
            java.util.Arrays.fill(before, -1);
            List<Integer> seen = new ArrayList<>(List.of(u));
            for (int k = 0; k < seen.size() && before[w] < 0; k++) {
                for (int v = 0; v < nodes; v++) {
                    if (steps[seen.get(k)][v] && before[v] < 0) {
                        before[v] = seen.get(k);
                        seen.add(v);
                    }
                }
            }
            List<Integer> found = new ArrayList<>(List.of(w));
            for (int v = before[w]; v != u; v = before[v]) {
                found.add(0, v);
            }
            return found;
        }

        int statesWith(boolean keeping) {
            int found = 0;
            for (int w = 0; w < nodes; w++) {
                if (turnsForEver(w)) {
                    for (int u = 0; u < nodes; u++) {
                        if ((u == w || reaches(u, w)) && holds(root, u) == keeping) {
                            found |= 1 << u / guesses;
                        }
                    }
                }
            }
            return found;
        }
    }
}
