import java.util.ArrayList;
import java.util.List;
import java.util.Random;

/**
 * Compares the program with a plain reference on many chosen formulas and structures. The reference
 * reads by the grammar, judges by the words of the document, tries all lassos, and looks at every
 * pair of nodes of the tableau of the formula as it stands, without its normal form.
 */
public final class PathCheckerAgainstReference {
    private static final int STATES = 6;
    private static int wrong = 0;

    public static void main(String[] args) {
        // A fixed start, so that each run tries the same.
        Random random = new Random(20261115L);
        for (int run = 0; run < 1500; run++) {
            runOnce(random);
        }
        for (int run = 0; run < 2000; run++) {
            // One object for some texts, so that none may leave a trace for the next one.
            PathChecker x = new PathChecker();
            for (int turn = 0; turn < 6; turn++) {
                compareReading(x, randomText(random));
            }
        }
        System.out.println(wrong == 0 ? "reference: all as due" : "reference: " + wrong + " wrong");
        if (wrong != 0) {
            System.exit(1);
        }
    }

    private static void runOnce(Random random) {
        PathChecker x = new PathChecker();
        int[] marks = new int[STATES];
        boolean[][] links = new boolean[STATES][STATES];
        int density = 1 + random.nextInt(6);
        int used = 1 + random.nextInt(STATES);
        for (int a = 0; a < used; a++) {
            setMarks(x, marks, a, random.nextInt(16) & random.nextInt(16));
            for (int b = 0; b < used; b++) {
                setLink(x, links, a, b, random.nextInt(6) < density);
            }
        }
        Node root = compareReading(x, randomFormula(random));
        if (root != null) {
            compareStructure(x, root, marks, links, random);
        }
        // Either the structure or the formula changes, or both; more would pass 512 calls.
        int change = random.nextInt(3);
        if (change > 0) {
            setMarks(x, marks, random.nextInt(STATES), random.nextInt(16));
            int a = random.nextInt(used);
            int b = random.nextInt(used);
            setLink(x, links, a, b, !links[a][b]);
        }
        if (change < 2) {
            Node next = compareReading(x, randomFormula(random));
            root = next == null ? root : next;
        }
        if (root != null) {
            compareStructure(x, root, marks, links, random);
        }
    }

    private static void setMarks(PathChecker x, int[] marks, int s, int value) {
        marks[s] = value;
        due("mark", x.mark(s, value), true);
    }

    private static void setLink(PathChecker x, boolean[][] links, int a, int b, boolean is) {
        due("link", x.link(a, b, is), links[a][b] != is);
        links[a][b] = is;
    }

    /** Types the text and takes it as the formula; its tree, or null if it is none or not modest. */
    private static Node compareReading(PathChecker x, String text) {
        x.wipe();
        for (int i = 0; i < text.length(); i++) {
            due("type", x.type(text.charAt(i)), true);
        }
        Node root = new Grammar(text).read();
        int timed = root == null ? 0 : root.timed();
        String want = root == null ? "java.lang.IllegalArgumentException"
                : timed > 5 ? "java.lang.UnsupportedOperationException" : "" + timed;
        String found;
        try {
            found = "" + x.formula();
        } catch (RuntimeException e) {
            found = e.getClass().getName();
        }
        due("formula " + text, found, want);
        if (root == null || timed > 5) {
            due("text of " + text, x.length(), text.length());
            return null;
        }
        String form = root.normal(false);
        due("normal(-1) of " + text, x.normal(-1), form.length());
        for (int k = 0; k < form.length(); k++) {
            due("normal(" + k + ") of " + text, x.normal(k), (int) form.charAt(k));
        }
        return root;
    }

    private static void compareStructure(
            PathChecker x, Node root, int[] marks, boolean[][] links, Random random) {
        String told = root.normal(false) + " marks " + java.util.Arrays.toString(marks)
                + " links " + java.util.Arrays.deepToString(links);
        Tableau tableau = new Tableau(root, marks, links);
        int breaking = tableau.statesWith(false);
        int keeping = tableau.statesWith(true);
        due("breaking " + told, x.breaking(), breaking);
        due("keeping " + told, x.keeping(), keeping);
        for (int s = 0; s < STATES; s++) {
            due("keeps " + s + " " + told, x.keeps(s), (breaking >> s & 1) == 0);
            due("endless " + s + " " + told, x.endless(s), ((breaking | keeping) >> s & 1) == 1);
            List<Integer> lasso = Lassos.first(root, marks, links, s);
            for (int k = -3; k <= 7; k++) {
                due("witness " + s + " " + k + " " + told, x.witness(s, k), Lassos.answer(lasso, k));
            }
        }
        compareJudging(x, root, marks, links, random);
    }

    private static void compareJudging(
            PathChecker x, Node root, int[] marks, boolean[][] links, Random random) {
        x.clear();
        int count = 1 + random.nextInt(8);
        int[] row = new int[count];
        for (int place = 0; place < count; place++) {
            row[place] = random.nextInt(STATES);
            // Mostly a row that is linked, as one by chance hardly ever is.
            for (int more = 0; more < 12 && place > 0 && !links[row[place - 1]][row[place]]; more++) {
                row[place] = random.nextInt(STATES);
            }
            due("go", x.go(row[place]), place + 1);
        }
        for (int j = 0; j < count; j++) {
            boolean linked = Lassos.isLinked(row, count, j, links);
            boolean[] holds = linked ? root.along(row, count, j, marks) : null;
            for (int i = 0; i < count; i++) {
                String found;
                try {
                    found = "" + x.judge(j, i);
                } catch (RuntimeException e) {
                    found = e.getClass().getName();
                }
                String want = linked ? "" + holds[i] : "java.lang.UnsupportedOperationException";
                due("judge(" + j + ", " + i + ") " + root.normal(false), found, want);
            }
        }
    }

    private static String randomFormula(Random random) {
        for (int attempt = 0; attempt < 1000; attempt++) {
            String text = randomPart(random, 2 + random.nextInt(4));
            if (text.length() <= 32) {
                return text;
            }
        }
        return "p";
    }

    private static String randomPart(Random random, int depth) {
        if (depth == 0) {
            return "" + "ppqqrrss10".charAt(random.nextInt(10));
        }
        int kind = random.nextInt(12);
        if (kind < 5) {
            String below = randomPart(random, depth - 1);
            boolean plain = below.length() == 1 || random.nextInt(4) == 0;
            return "!XFGF".charAt(kind) + (plain ? below : "(" + below + ")");
        }
        if (kind < 10) {
            return wrapped(random, depth) + "&|URU".charAt(kind - 5) + wrapped(random, depth);
        }
        return kind == 10 ? randomPart(random, 0) : wrapped(random, depth) + ">" + wrapped(random, depth);
    }

    private static String wrapped(Random random, int depth) {
        String part = randomPart(random, random.nextInt(depth));
        return part.length() == 1 || random.nextBoolean() ? part : "(" + part + ")";
    }

    /** Half of them formulas with a slip, half of them any characters that a formula may have. */
    private static String randomText(Random random) {
        StringBuilder text = new StringBuilder();
        if (random.nextBoolean()) {
            text.append(randomFormula(random));
            int at = random.nextInt(text.length());
            if (random.nextBoolean()) {
                text.deleteCharAt(at);
            } else {
                text.setCharAt(at, "!XFG()pqrs10UR&|>".charAt(random.nextInt(17)));
            }
            return text.toString();
        }
        int count = random.nextInt(9);
        for (int i = 0; i < count; i++) {
            text.append("!XFG()pq1UR&|>a".charAt(random.nextInt(15)));
        }
        return text.toString();
    }

    private static void due(String what, Object found, Object want) {
        if (!found.equals(want)) {
            wrong++;
            if (wrong < 40) {
                System.out.println(what + ": " + found + ", due is " + want);
            }
        }
    }

    /** A part of a formula, as it was written. */
    private record Node(char sign, Node a, Node b) {
        boolean isTimed() {
            return "XFGUR".indexOf(sign) >= 0;
        }

        int timed() {
            return (isTimed() ? 1 : 0) + (a == null ? 0 : a.timed()) + (b == null ? 0 : b.timed());
        }

        String normal(boolean not) {
            switch (sign) {
                case '!': return a.normal(!not);
                case 'X': return "X" + a.normal(not);
                case 'F': return (not ? "R0" : "U1") + a.normal(not);
                case 'G': return (not ? "U1" : "R0") + a.normal(not);
                case '&': return (not ? "|" : "&") + a.normal(not) + b.normal(not);
                case '|': return (not ? "&" : "|") + a.normal(not) + b.normal(not);
                case 'U': return (not ? "R" : "U") + a.normal(not) + b.normal(not);
                case 'R': return (not ? "U" : "R") + a.normal(not) + b.normal(not);
                case '>': return (not ? "&" : "|") + a.normal(!not) + b.normal(not);
                case '1': return not ? "0" : "1";
                case '0': return not ? "1" : "0";
                default: return "" + (not ? "ABCD" : "pqrs").charAt("pqrs".indexOf(sign));
            }
        }

        /** Where it holds along a lasso, by the words of the document. */
        boolean[] along(int[] row, int count, int j, int[] marks) {
            boolean[] first = a == null ? null : a.along(row, count, j, marks);
            boolean[] second = b == null ? null : b.along(row, count, j, marks);
            boolean[] holds = new boolean[count];
            for (int i = 0; i < count; i++) {
                holds[i] = at(i, row, j, marks, first, second);
            }
            return holds;
        }

        private boolean at(int i, int[] row, int j, int[] marks, boolean[] first, boolean[] second) {
            int count = second != null ? second.length : first != null ? first.length : 0;
            switch (sign) {
                case '!': return !first[i];
                case '&': return first[i] && second[i];
                case '|': return first[i] || second[i];
                case '>': return !first[i] || second[i];
                case 'X': return first[i + 1 < count ? i + 1 : j];
                case 'F': return until(i, j, always(count), first);
                case 'G': return release(i, j, new boolean[count], first);
                case 'U': return until(i, j, first, second);
                case 'R': return release(i, j, first, second);
                case '1': return true;
                case '0': return false;
                default: return (marks[row[i]] >> "pqrs".indexOf(sign) & 1) == 1;
            }
        }

        private static boolean[] always(int count) {
            boolean[] all = new boolean[count];
            java.util.Arrays.fill(all, true);
            return all;
        }

        private static boolean until(int i, int j, boolean[] first, boolean[] second) {
            int place = i;
            for (int step = 0; step < 2 * first.length + 2; step++) {
                if (second[place]) {
                    return true;
                }
                if (!first[place]) {
                    return false;
                }
                place = place + 1 < first.length ? place + 1 : j;
            }
            return false;
        }

        private static boolean release(int i, int j, boolean[] first, boolean[] second) {
            int place = i;
            boolean released = false;
            for (int step = 0; step < 2 * first.length + 2; step++) {
                if (!second[place] && !released) {
                    return false;
                }
                released = released || first[place];
                place = place + 1 < first.length ? place + 1 : j;
            }
            return true;
        }
    }

    /** One method for each line of the grammar. */
    private static final class Grammar {
        private final String text;
        private int at = 0;
        private int depth = 0;

        Grammar(String text) {
            this.text = text;
        }

        Node read() {
            Node root = whole();
            return at == text.length() ? root : null;
        }

        private boolean takes(char sign) {
            boolean is = at < text.length() && text.charAt(at) == sign;
            at += is ? 1 : 0;
            return is;
        }

        private Node two(char sign, Node a, Node b) {
            return a == null || b == null ? null : new Node(sign, a, b);
        }

        private Node whole() {
            Node a = choice();
            return a != null && takes('>') ? two('>', a, whole()) : a;
        }

        private Node choice() {
            Node a = both();
            while (a != null && takes('|')) {
                a = two('|', a, both());
            }
            return a;
        }

        private Node both() {
            Node a = line();
            while (a != null && takes('&')) {
                a = two('&', a, line());
            }
            return a;
        }

        private Node line() {
            Node a = unit();
            if (a != null && takes('U')) {
                return two('U', a, line());
            }
            return a != null && takes('R') ? two('R', a, line()) : a;
        }

        private Node unit() {
            for (char sign : "!XFG".toCharArray()) {
                if (takes(sign)) {
                    Node a = unit();
                    return a == null ? null : new Node(sign, a, null);
                }
            }
            for (char sign : "pqrs10".toCharArray()) {
                if (takes(sign)) {
                    return new Node(sign, null, null);
                }
            }
            return takes('(') ? inParentheses() : null;
        }

        private Node inParentheses() {
            depth++;
            if (depth > 6) {
                return null;
            }
            Node a = whole();
            depth--;
            return takes(')') ? a : null;
        }
    }

    /** All lassos, one after another. */
    private static final class Lassos {
        static boolean isLinked(int[] row, int count, int j, boolean[][] links) {
            for (int place = 0; place + 1 < count; place++) {
                if (!links[row[place]][row[place + 1]]) {
                    return false;
                }
            }
            return links[row[count - 1]][row[j]];
        }

        /** The states of the witness and then j, or null. */
        static List<Integer> first(Node root, int[] marks, boolean[][] links, int s) {
            for (int n = 1; n <= 6; n++) {
                int[] row = new int[n];
                row[0] = s;
                List<Integer> found = from(root, marks, links, row, 1);
                if (found != null) {
                    return found;
                }
            }
            return null;
        }

        private static List<Integer> from(
                Node root, int[] marks, boolean[][] links, int[] row, int filled) {
            int n = row.length;
            if (filled < n) {
                for (int next = 0; next < STATES; next++) {
                    if (links[row[filled - 1]][next]) {
                        row[filled] = next;
                        List<Integer> found = from(root, marks, links, row, filled + 1);
                        if (found != null) {
                            return found;
                        }
                    }
                }
                return null;
            }
            for (int j = 0; j < n; j++) {
                if (links[row[n - 1]][row[j]] && !root.along(row, n, j, marks)[0]) {
                    List<Integer> found = new ArrayList<>();
                    for (int state : row) {
                        found.add(state);
                    }
                    found.add(j);
                    return found;
                }
            }
            return null;
        }

        static int answer(List<Integer> lasso, int k) {
            if (lasso == null || k < -2 || k >= lasso.size() - 1) {
                return -1;
            }
            return k == -1 ? lasso.size() - 1 : k == -2 ? lasso.get(lasso.size() - 1) : lasso.get(k);
        }
    }

    /** States with a guess for each timed operator, as written; steps forward, pair by pair. */
    private static final class Tableau {
        private final List<Node> timed = new ArrayList<>();
        private final Node root;
        private final int[] marks;
        private final int guesses;
        private final int nodes;
        /** Row u: the nodes that u reaches in one step or more. */
        private final long[][] reach;

        Tableau(Node root, int[] marks, boolean[][] links) {
            this.root = root;
            this.marks = marks;
            collect(root);
            guesses = 1 << timed.size();
            nodes = STATES * guesses;
            reach = new long[nodes][3];
            for (int u = 0; u < nodes; u++) {
                for (int w = 0; w < nodes; w++) {
                    if (links[u / guesses][w / guesses] && follows(u, w)) {
                        reach[u][w >> 6] |= 1L << w;
                    }
                }
            }
            for (int mid = 0; mid < nodes; mid++) {
                for (int u = 0; u < nodes; u++) {
                    if (reaches(u, mid)) {
                        for (int i = 0; i < 3; i++) {
                            reach[u][i] |= reach[mid][i];
                        }
                    }
                }
            }
        }

        private void collect(Node node) {
            if (node != null) {
                if (node.isTimed()) {
                    timed.add(node);
                }
                collect(node.a);
                collect(node.b);
            }
        }

        private boolean reaches(int u, int w) {
            return (reach[u][w >> 6] >>> w & 1) == 1;
        }

        private int numberOf(Node node) {
            for (int i = 0; i < timed.size(); i++) {
                // Two equal parts are two guesses; records would call them one.
                if (timed.get(i) == node) {
                    return i;
                }
            }
            throw new AssertionError();
        }

        private boolean holds(Node node, int u) {
            if (node.isTimed()) {
                return (u % guesses >> numberOf(node) & 1) == 1;
            }
            switch (node.sign) {
                case '!': return !holds(node.a, u);
                case '&': return holds(node.a, u) && holds(node.b, u);
                case '|': return holds(node.a, u) || holds(node.b, u);
                case '>': return !holds(node.a, u) || holds(node.b, u);
                case '1': return true;
                case '0': return false;
                default: return (marks[u / guesses] >> "pqrs".indexOf(node.sign) & 1) == 1;
            }
        }

        private boolean follows(int u, int w) {
            for (Node node : timed) {
                boolean due;
                switch (node.sign) {
                    case 'X': due = holds(node.a, w); break;
                    case 'F': due = holds(node.a, u) || holds(node, w); break;
                    case 'G': due = holds(node.a, u) && holds(node, w); break;
                    case 'U': due = holds(node.b, u) || (holds(node.a, u) && holds(node, w)); break;
                    default: due = holds(node.b, u) && (holds(node.a, u) || holds(node, w)); break;
                }
                if (holds(node, u) != due) {
                    return false;
                }
            }
            return true;
        }

        private boolean isPrompt(Node node, int u) {
            switch (node.sign) {
                case 'F': return !holds(node, u) || holds(node.a, u);
                case 'G': return holds(node, u) || !holds(node.a, u);
                case 'U': return !holds(node, u) || holds(node.b, u);
                case 'R': return holds(node, u) || !holds(node.b, u);
                default: return true;
            }
        }

        private boolean turnsForEver(int u) {
            if (!reaches(u, u)) {
                return false;
            }
            for (Node node : timed) {
                boolean found = false;
                for (int w = 0; w < nodes && !found; w++) {
                    found = reaches(u, w) && reaches(w, u) && isPrompt(node, w);
                }
                if (!found) {
                    return false;
                }
            }
            return true;
        }

        int statesWith(boolean keeping) {
            int found = 0;
            for (int w = 0; w < nodes; w++) {
                if (turnsForEver(w)) {
                    for (int u = 0; u < nodes; u++) {
                        if ((u == w || reaches(u, w)) && holds(root, u) == keeping) {
                            found |= 1 << u / guesses;
                        }
                    }
                }
            }
            return found;
        }
    }
}
