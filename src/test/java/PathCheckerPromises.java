import java.util.function.IntSupplier;

/** A test or more for each promise of the document: ordinary inputs, named edges, wrong inputs. */
public final class PathCheckerPromises {
    private static final int NONE = PathChecker.NONE;
    private static int wrong = 0;

    public static void main(String[] args) {
        newObject();
        type();
        wipeAndLength();
        formulaThatIsOne();
        formulaThatIsNone();
        formulaThatIsNotModest();
        formulaChangesNothingWhenItThrows();
        formulaForgetsEarlierTexts();
        grouping();
        normal();
        longestNormalForm();
        mark();
        link();
        state();
        endless();
        keeps();
        breakingAndKeeping();
        pathsAsLongAsTheyNeedBe();
        farFromTheLastLoop();
        longestFormulaIsChecked();
        answersFollowChanges();
        eachAnswerFollowsAtOnce();
        witness();
        witnessOrder();
        witnessLimit();
        witnessIsJudgedBroken();
        goAndClear();
        judge();
        judgeThrows();
        judgeFollowsAtOnce();
        meaningOfOperators();
        System.out.println(wrong == 0 ? "promises: all as due" : "promises: " + wrong + " wrong");
        if (wrong != 0) {
            System.exit(1);
        }
    }

    // Promise 1

    private static void newObject() {
        PathChecker x = new PathChecker();
        due("1 the text is empty", x.length(), 0);
        dueThrow("1 the empty text is no formula", IllegalArgumentException.class, x::formula);
        dueThrow("1 no formula: normal", IllegalStateException.class, () -> x.normal(-1));
        dueThrow("1 no formula: keeps", IllegalStateException.class, () -> bit(x.keeps(0)));
        dueThrow("1 no formula: breaking", IllegalStateException.class, x::breaking);
        dueThrow("1 no formula: keeping", IllegalStateException.class, x::keeping);
        dueThrow("1 no formula: witness", IllegalStateException.class, () -> x.witness(0, -1));
        dueThrow("1 no formula: judge", IllegalStateException.class, () -> bit(x.judge(0, 0)));
        for (int s = 0; s < 6; s++) {
            due("1 no marks", x.state(s, -1), 0);
            for (int b = 0; b < 6; b++) {
                due("1 no links", x.state(s, b), 0);
            }
        }
        due("1 the row is empty", x.go(0), 1);
        due("1 NONE", NONE, -1);
    }

    // Promise 2

    private static void type() {
        PathChecker x = new PathChecker();
        due("2 eight characters", x.type(pack("p&q|r&s>")), true);
        due("2 they count", x.length(), 8);
        due("2 zero bytes are passed over", x.type(0x0070000000000000L), true);
        due("2 one more", x.length(), 9);
        x.formula();
        due("2 the parts follow one another", form(x), "|&|AB|CDp");
        typeInOrder();
        typeRefuses();
    }

    private static void typeInOrder() {
        PathChecker x = new PathChecker();
        due("2 gaps", x.type(0x0070002600007100L), true);
        due("2 gaps count nothing", x.length(), 3);
        due("2 no byte at all", x.type(0L), true);
        due("2 nothing added", x.length(), 3);
        x.formula();
        due("2 the highest byte comes first", form(x), "&pq");
    }

    private static void typeRefuses() {
        PathChecker x = new PathChecker();
        due("2 byte 32", x.type(0x7020L), false);
        due("2 byte 127", x.type(0x707FL), false);
        due("2 byte 128", x.type(0x7080L), false);
        due("2 byte 255", x.type(0xFF70000000000000L), false);
        due("2 byte 1", x.type(1L), false);
        due("2 all bits", x.type(-1L), false);
        due("2 nothing was added", x.length(), 0);
        due("2 byte 33", x.type(33L), true);
        due("2 byte 126", x.type(126L), true);
        due("2 both are there", x.length(), 2);
        typeUpToTheLimit();
    }

    private static void typeUpToTheLimit() {
        PathChecker x = new PathChecker();
        put(x, "!!!!!!!!" + "!!!!!!!!" + "!!!!!!!!" + "!!!!!!");
        due("2 thirty", x.length(), 30);
        due("2 three more are too many", x.type(pack("!!p")), false);
        due("2 still thirty", x.length(), 30);
        due("2 two more fit", x.type(pack("!p")), true);
        due("2 one more does not", x.type(pack("p")), false);
        due("2 none more does", x.type(0L), true);
        due("2 thirty-two", x.length(), 32);
        due("2 a refused part left no trace", x.formula(), 0);
        due("2 thirty-one times !", form(x), "A");
    }

    // Promises 3 and 4

    private static void wipeAndLength() {
        PathChecker x = new PathChecker();
        x.wipe();
        due("3 wiped when empty", x.length(), 0);
        put(x, "Gp");
        x.formula();
        put(x, "p&");
        due("4 two", x.length(), 2);
        x.wipe();
        due("3 empty", x.length(), 0);
        due("3 the formula stays", form(x), "R0p");
        put(x, "q");
        due("4 one", x.length(), 1);
        x.formula();
        due("3 the wiped text is gone", form(x), "q");
        put(x, "0123456789012345678901234567890~");
        due("4 thirty-two", x.length(), 32);
    }

    // Promise 5

    private static void formulaThatIsOne() {
        dueFormula("p", 0);
        dueFormula("1", 0);
        dueFormula("0", 0);
        dueFormula("!!s", 0);
        dueFormula("Xp", 1);
        dueFormula("Fp", 1);
        dueFormula("Gp", 1);
        dueFormula("pUq", 1);
        dueFormula("pRq", 1);
        dueFormula("XFGpUqRr", 5);
        dueFormula("!X!F!G!p", 3);
        dueFormula("((((((p))))))", 0);
        dueFormula("((((((p))))))&((((((q))))))", 0);
        dueFormula("(((((p)&(q)))))>(r)", 0);
        dueFormula("p&q&r&s&p&q&r&s&p&q&r&s&p&q&r&!s", 0);
        dueFormula("FFFFFp&p&p&p&p&p&p&p&p&p&p&p&p&p", 5);
    }

    private static void formulaThatIsNone() {
        String[] texts = {
            "", "pq", "p&", "&p", "p&&q", "p|", "|p", ">p", "p>", "p>>q", "U", "pU", "Up", "pUUq",
            "pRUq", "X", "!", "p!", "p!q", "pX", "pXq", "(", ")", "()", "(p", "p)", "(p))", "((p)",
            "p(q)", "(p)q", "(p)(q)", ")p(", "t", "o", "P", "2", "p=q", "p->q", "pGq", "pFq", "p1",
            "10", "(p&)", "(&p)", "A", "p&(q|r", "p&q|r)", "x", "f", "g", "u", "[p]", "p<q", "!)",
            "(!)", "(((((((p)))))))", "p&(((((((q)))))))", "!!!!!!!!!!!!!!!!!!!!!!!!!!!!!!!!",
            "((((((((((((((((((((((((((((((((", "XXXXXX", "XXXXXXp)", "FFFFFF(((((((p)))))))"
        };
        for (String text : texts) {
            PathChecker x = new PathChecker();
            put(x, text);
            dueThrow("5 no formula: " + text, IllegalArgumentException.class, x::formula);
        }
    }

    private static void formulaThatIsNotModest() {
        String[] texts = {
            "XXXXXXp", "FFFFFFp", "GGGGGGp", "pUpUpUpUpUpUp", "pRpRpRpRpRpRp", "XpUFqRGr&Xs",
            "XXXXX(Xp)", "XFXFXFXFXFXFXFXFXFXFXFXFXFXFXFXp", "Xp&Xp|Xp>Xp&Xp|Xp"
        };
        for (String text : texts) {
            PathChecker x = new PathChecker();
            put(x, text);
            dueThrow("5 not modest: " + text, UnsupportedOperationException.class, x::formula);
            due("5 the text stays: " + text, x.length(), text.length());
        }
    }

    private static void formulaChangesNothingWhenItThrows() {
        PathChecker x = new PathChecker();
        put(x, "GFp");
        due("5 two timed", x.formula(), 2);
        due("5 the text is empty then", x.length(), 0);
        x.mark(0, 1);
        x.link(0, 0, true);
        dueThrow("5 an empty text", IllegalArgumentException.class, x::formula);
        due("5 the formula stays", form(x), "R0U1p");
        put(x, "!p&");
        dueThrow("5 unfinished", IllegalArgumentException.class, x::formula);
        due("5 the text stays", x.length(), 3);
        due("5 the formula stays again", form(x), "R0U1p");
        due("5 and is the one that is checked", x.keeps(0), true);
        put(x, "XXXXXXq");
        dueThrow("5 too many", UnsupportedOperationException.class, x::formula);
        due("5 the text stays again", x.length(), 10);
        due("5 the formula stays for good", form(x), "R0U1p");
        x.wipe();
        put(x, "!p");
        x.formula();
        due("5 a new formula", form(x), "A");
        due("5 is checked from now on", x.keeps(0), false);
    }

    private static void formulaForgetsEarlierTexts() {
        PathChecker x = new PathChecker();
        String[] texts = {"((((((p", "(((((((p", "p)))", "!X(p&", "XXXXXp&X", "p>q>r>", ")"};
        for (String text : texts) {
            put(x, text);
            dueThrow("5 no formula: " + text, IllegalArgumentException.class, x::formula);
            x.wipe();
            put(x, "((((((Xp))))))");
            due("5 a formula behind " + text, x.formula(), 1);
            due("5 its form behind " + text, form(x), "Xp");
        }
    }

    private static void grouping() {
        dueForm("p>q>r", "|A|Br");
        dueForm("(p>q)>r", "|&pBr");
        dueForm("p|q>r|s", "|&AB|rs");
        dueForm("p&q&r", "&&pqr");
        dueForm("p&(q&r)", "&p&qr");
        dueForm("p|q|r", "||pqr");
        dueForm("p|(q|r)", "|p|qr");
        dueForm("p|q&r", "|p&qr");
        dueForm("p&q|r", "|&pqr");
        dueForm("(p|q)&r", "&|pqr");
        dueForm("pUqUr", "UpUqr");
        dueForm("(pUq)Ur", "UUpqr");
        dueForm("pRqRr", "RpRqr");
        dueForm("pUqRr", "UpRqr");
        dueForm("pRqUr", "RpUqr");
        dueForm("(pUq)Rr", "RUpqr");
        dueForm("pUq&rRs", "&UpqRrs");
        dueForm("p&qUr&s", "&&pUqrs");
        dueForm("!pUq", "UAq");
        dueForm("!(pUq)", "RAB");
        dueForm("XpUq", "UXpq");
        dueForm("FpRGq", "RU1pR0q");
        dueForm("GpUq", "UR0pq");
        dueForm("!p&q", "&Aq");
        dueForm("Xp>q", "|XAq");
        dueForm("p>q&r|s>1", "|A|&|BCD1");
    }

    // Promise 6

    private static void normal() {
        dueForm("p", "p");
        dueForm("q", "q");
        dueForm("r", "r");
        dueForm("s", "s");
        dueForm("!p", "A");
        dueForm("!q", "B");
        dueForm("!r", "C");
        dueForm("!s", "D");
        dueForm("!!p", "p");
        dueForm("1", "1");
        dueForm("0", "0");
        dueForm("!1", "0");
        dueForm("!0", "1");
        dueForm("Fp", "U1p");
        dueForm("Gp", "R0p");
        dueForm("!Fp", "R0A");
        dueForm("!Gp", "U1A");
        dueForm("!Xp", "XA");
        dueForm("!(p&q)", "|AB");
        dueForm("!(p|q)", "&AB");
        dueForm("!(pUq)", "RAB");
        dueForm("!(pRq)", "UAB");
        dueForm("!(p>q)", "&pB");
        dueForm("p>q", "|Aq");
        dueForm("!(!p>!q)", "&Aq");
        dueForm("!(p>!(q>r))", "&p|Br");
        dueForm("!X!F!G!p", "XU1U1p");
        dueForm("G(p>Fq)", "R0|AU1q");
        dueForm("!G(p>Fq)", "U1&pR0B");
        dueForm("p&p", "&pp");
        dueForm("p|1", "|p1");
        normalEdges();
    }

    private static void normalEdges() {
        PathChecker x = new PathChecker();
        put(x, "pUq");
        x.formula();
        due("6 how many", x.normal(-1), 3);
        due("6 the first", x.normal(0), (int) 'U');
        due("6 the last", x.normal(2), (int) 'q');
        due("6 behind the last", x.normal(3), NONE);
        due("6 far behind", x.normal(Integer.MAX_VALUE), NONE);
        due("6 -2", x.normal(-2), NONE);
        due("6 far before", x.normal(Integer.MIN_VALUE), NONE);
        put(x, "Xp");
        x.formula();
        due("6 nothing of an earlier one is left", x.normal(2), NONE);
    }

    private static void longestNormalForm() {
        dueForm("FFFFFp&p&p&p&p&p&p&p&p&p&p&p&p&p",
                "&".repeat(13) + "U1".repeat(5) + "p".repeat(14));
        dueForm("p&q&r&s&p&q&r&s&p&q&r&s&p&q&r&!s",
                "&".repeat(15) + "pqrspqrspqrspqrD");
        dueForm("p>p>p>p>p>p>p>p>p>p>p>p>p>p>p>1", "|A".repeat(15) + "1");
    }

    // Promises 7 to 9

    private static void mark() {
        PathChecker x = new PathChecker();
        due("7 all marks", x.mark(0, 15), true);
        due("7 they are there", x.state(0, -1), 15);
        due("7 the last state", x.mark(5, 9), true);
        due("7 its marks", x.state(5, -1), 9);
        due("7 the others have none", x.state(4, -1), 0);
        due("7 the same again", x.mark(5, 9), true);
        due("7 fewer", x.mark(0, 2), true);
        due("7 only these", x.state(0, -1), 2);
        due("7 none", x.mark(0, 0), true);
        due("7 none are left", x.state(0, -1), 0);
        due("7 state 6", x.mark(6, 1), false);
        due("7 state -1", x.mark(-1, 1), false);
        due("7 far off", x.mark(Integer.MIN_VALUE, 1), false);
        due("7 marks 16", x.mark(5, 16), false);
        due("7 marks -1", x.mark(5, -1), false);
        due("7 nothing has changed", x.state(5, -1), 9);
    }

    private static void link() {
        PathChecker x = new PathChecker();
        due("8 not linked already", x.link(0, 1, false), false);
        due("8 link", x.link(0, 1, true), true);
        due("8 linked already", x.link(0, 1, true), false);
        due("8 it is", x.state(0, 1), 1);
        due("8 not the other way", x.state(1, 0), 0);
        due("8 to itself", x.link(5, 5, true), true);
        due("8 it is too", x.state(5, 5), 1);
        due("8 not any more", x.link(0, 1, false), true);
        due("8 it is not", x.state(0, 1), 0);
        due("8 not any more already", x.link(0, 1, false), false);
        for (int bad : new int[] {-1, 6, 32, Integer.MIN_VALUE, Integer.MAX_VALUE}) {
            due("8 no first", x.link(bad, 0, true), false);
            due("8 no second", x.link(0, bad, true), false);
            due("8 no first, not linked", x.link(bad, 0, false), false);
            due("8 no second, not linked", x.link(0, bad, false), false);
        }
        for (int b = 0; b < 6; b++) {
            due("8 nothing has changed", x.state(0, b), 0);
        }
    }

    private static void state() {
        PathChecker x = new PathChecker();
        x.mark(3, 6);
        x.link(3, 4, true);
        due("9 marks", x.state(3, -1), 6);
        due("9 linked", x.state(3, 4), 1);
        due("9 not linked", x.state(3, 3), 0);
        due("9 b -2", x.state(3, -2), NONE);
        due("9 b 6", x.state(3, 6), NONE);
        due("9 b far off", x.state(3, 36), NONE);
        due("9 s 6", x.state(6, -1), NONE);
        due("9 s -1", x.state(-1, -1), NONE);
        due("9 s -1 and b", x.state(-1, 4), NONE);
        due("9 s and b", x.state(7, 7), NONE);
    }

    // Promise 10

    private static void endless() {
        PathChecker x = new PathChecker();
        due("10 no links", x.endless(0), false);
        for (int s = 5; s > 0; s--) {
            x.link(s, s - 1, true);
        }
        for (int s = 0; s < 6; s++) {
            due("10 all end", x.endless(s), false);
        }
        x.link(0, 0, true);
        for (int s = 0; s < 6; s++) {
            due("10 all reach the loop", x.endless(s), true);
        }
        x.link(0, 0, false);
        x.link(3, 4, true);
        for (int s = 0; s < 6; s++) {
            due("10 those that reach 3", x.endless(s), s >= 3);
        }
        endlessTheOtherWay();
        due("10 state 6", x.endless(6), false);
        due("10 state -1", x.endless(-1), false);
        due("10 state 35", x.endless(35), false);
        due("10 state -32 + 3", x.endless(-29), false);
    }

    private static void endlessTheOtherWay() {
        PathChecker x = new PathChecker();
        for (int s = 0; s < 5; s++) {
            x.link(s, s + 1, true);
        }
        for (int s = 0; s < 6; s++) {
            due("10 all end at 5", x.endless(s), false);
        }
        x.link(4, 3, true);
        for (int s = 0; s < 6; s++) {
            due("10 all but 5 reach 3 and 4", x.endless(s), s < 5);
        }
    }

    // Promises 11 to 13

    private static void keeps() {
        PathChecker x = twoLoops();
        dueThrow("11 no formula is told ahead of no state", IllegalStateException.class,
                () -> bit(x.keeps(6)));
        put(x, "Fq");
        x.formula();
        due("11 may stay at 0", x.keeps(0), false);
        due("11 is there", x.keeps(1), true);
        due("11 no path", x.keeps(2), true);
        dueThrow("11 state 6", IndexOutOfBoundsException.class, () -> bit(x.keeps(6)));
        dueThrow("11 state -1", IndexOutOfBoundsException.class, () -> bit(x.keeps(-1)));
        put(x, "0");
        x.formula();
        due("11 no path keeps all", x.keeps(2), true);
        due("11 0 is broken", x.keeps(1), false);
        put(x, "1");
        x.formula();
        due("11 1 is kept", x.keeps(0), true);
    }

    private static void breakingAndKeeping() {
        dueSets(twoLoops(), "Fq", 0b01, 0b11);
        dueSets(twoLoops(), "Gp", 0b11, 0b01);
        dueSets(twoLoops(), "pUq", 0b01, 0b11);
        dueSets(twoLoops(), "qRp", 0b11, 0b01);
        dueSets(twoLoops(), "Xq", 0b01, 0b11);
        dueSets(twoLoops(), "XXp", 0b11, 0b01);
        dueSets(twoLoops(), "FGp|FGq", 0b00, 0b11);
        dueSets(twoLoops(), "GFp&GFq", 0b11, 0b00);
        dueSets(twoLoops(), "p", 0b10, 0b01);
        dueSets(twoLoops(), "1", 0b00, 0b11);
        dueSets(twoLoops(), "0", 0b11, 0b00);
        dueSets(new PathChecker(), "1", 0, 0);
        dueSets(new PathChecker(), "G0", 0, 0);
        PathChecker full = complete();
        dueSets(full, "GFp", 63, 63);
        dueSets(full, "FGp>GFp", 0, 63);
        dueSets(full, "Fp", 0b111101, 63);
    }

    /** A loop of 0 and 1 that may also turn aside; a path may take as many rounds as it likes. */
    private static void pathsAsLongAsTheyNeedBe() {
        PathChecker x = new PathChecker();
        for (int s = 1; s < 5; s++) {
            x.link(0, s, true);
            x.link(s, 0, true);
            x.mark(s, 1 << (s - 1));
        }
        put(x, "!(Fp&Fq&Fr&Fs)");
        x.formula();
        due("12 all four spokes can be seen", x.breaking(), 0b11111);
        due("13 or not", x.keeping(), 0b11111);
        due("11 so not all keep to it", x.keeps(0), false);
        due("14 but no lasso of six states does it", x.witness(0, -1), NONE);
        due("14 nor has a j", x.witness(0, -2), NONE);
        due("14 nor a state", x.witness(0, 0), NONE);
        put(x, "!(Fp&Fq&Fr)");
        x.formula();
        due("14 three spokes take six states", x.witness(0, -1), 6);
        due("14 and go on at the first", x.witness(0, -2), 0);
    }

    /** From 5 a path that sees p but not for ever has to go once round and stay at 5 then. */
    private static void farFromTheLastLoop() {
        for (int turn = 0; turn < 6; turn++) {
            PathChecker x = new PathChecker();
            for (int s = 0; s < 6; s++) {
                x.link((s + turn) % 6, (s + 1 + turn) % 6, true);
            }
            int stay = (5 + turn) % 6;
            x.link(stay, stay, true);
            x.mark((4 + turn) % 6, 1);
            dueSets(x, "!(Fp&FG!p)", 63, 63);
            due("14 seven states are too many", x.witness(stay, -1), NONE);
            due("14 six are not", x.witness(turn, -1), 6);
            due("14 and stay at the last", x.witness(turn, -2), 5);
            due("14 which is this", x.witness(turn, 5), stay);
            dueSets(x, "!(F(p&XFp)&FG!p)", 63, 63);
            due("14 twice round is too far", x.witness(turn, -1), NONE);
        }
    }

    private static void longestFormulaIsChecked() {
        PathChecker x = complete();
        dueSets(x, "FFFFFp&1&1&1&1&1&1&1&1&1&1&1&1&1", 0b111101, 63);
        dueLasso(x, "GGGGGp|0|0|0|0|0|0|0|0|0|0|0|0|0", 1, "10 j0");
        x.go(1);
        due("17 the longest formula", x.judge(0, 0), true);
    }

    private static void eachAnswerFollowsAtOnce() {
        PathChecker x = twoLoops();
        for (int round = 0; round < 2; round++) {
            put(x, "Gp");
            x.formula();
            due("11 behind a formula", x.keeps(0), false);
            x.link(0, 1, false);
            due("11 behind a link", x.keeps(0), true);
            x.mark(0, 0);
            due("11 behind a mark", x.keeps(0), false);
            x.mark(0, 1);
            due("12 behind a mark", x.breaking(), 2);
            x.link(0, 1, true);
            due("12 behind a link", x.breaking(), 3);
            put(x, "Fq");
            x.formula();
            due("12 behind a formula", x.breaking(), 1);
            x.mark(1, 0);
            due("13 behind a mark", x.keeping(), 0);
            x.mark(1, 2);
            x.link(0, 1, false);
            due("13 behind a link", x.keeping(), 2);
            put(x, "p");
            x.formula();
            due("13 behind a formula", x.keeping(), 1);
            x.mark(0, 0);
            due("14 behind a mark", x.witness(0, -1), 1);
            x.mark(0, 1);
            due("14 behind another mark", x.witness(0, -1), NONE);
            put(x, "Gp");
            x.formula();
            due("14 behind a formula", x.witness(0, -1), NONE);
            x.link(0, 1, true);
            due("14 behind a link", x.witness(0, -1), 2);
        }
    }

    private static void answersFollowChanges() {
        PathChecker x = new PathChecker();
        put(x, "Gp");
        x.formula();
        x.link(0, 0, true);
        due("12 no mark", x.breaking(), 1);
        due("14 witness", x.witness(0, -1), 1);
        x.mark(0, 1);
        due("12 marked", x.breaking(), 0);
        due("13 marked", x.keeping(), 1);
        due("14 no witness", x.witness(0, -1), NONE);
        x.link(0, 1, true);
        due("12 an end is no path", x.breaking(), 0);
        x.link(1, 1, true);
        due("12 now it is", x.breaking(), 3);
        due("14 witness of two", x.witness(0, -1), 2);
        due("14 witness of one", x.witness(1, -1), 1);
        due("14 and the other again", x.witness(0, -2), 1);
        x.link(1, 1, false);
        due("12 and now no more", x.breaking(), 0);
        put(x, "G!p");
        x.formula();
        due("12 another formula", x.breaking(), 1);
        due("11 another formula", x.keeps(0), false);
        due("14 another witness", x.witness(0, -1), 1);
    }

    // Promise 14

    private static void witness() {
        PathChecker x = twoLoops();
        dueThrow("14 no formula is told ahead of no state", IllegalStateException.class,
                () -> x.witness(6, 0));
        put(x, "Gp");
        x.formula();
        due("14 n", x.witness(0, -1), 2);
        due("14 j", x.witness(0, -2), 1);
        due("14 state 0", x.witness(0, 0), 0);
        due("14 state 1", x.witness(0, 1), 1);
        due("14 state 2", x.witness(0, 2), NONE);
        due("14 k -3", x.witness(0, -3), NONE);
        due("14 k far off", x.witness(0, Integer.MAX_VALUE), NONE);
        due("14 no path", x.witness(2, -1), NONE);
        due("14 no state 6", x.witness(6, -1), NONE);
        due("14 no state -1", x.witness(-1, -1), NONE);
        put(x, "1");
        x.formula();
        due("14 nothing breaks it", x.witness(0, -1), NONE);
        due("14 no j", x.witness(0, -2), NONE);
        due("14 no state", x.witness(0, 0), NONE);
    }

    private static void witnessOrder() {
        PathChecker x = complete();
        dueLasso(x, "0", 3, "3 j0");
        dueLasso(x, "Xp", 2, "2 j0");
        dueLasso(x, "X!p", 2, "21 j0");
        dueLasso(x, "XX!p", 2, "21 j1");
        dueLasso(x, "!Fq", 0, "02 j0");
        dueLasso(x, "!(Fp&Fq)", 0, "012 j0");
        dueLasso(x, "!(F(p&XFq))", 5, "512 j0");
        dueLasso(x, "!(X(p&Xq)&GFr)", 0, "0123 j0");
        dueLasso(x, "!(Xp&XGp)", 0, "01 j1");
        dueLasso(x, "!(Xp&X(X!p&XXp))", 0, "01 j0");
        x.link(0, 0, false);
        x.link(1, 0, false);
        dueLasso(x, "!Fp", 0, "01 j1");
    }

    private static void witnessLimit() {
        PathChecker x = new PathChecker();
        for (int s = 0; s < 5; s++) {
            x.link(s, s + 1, true);
        }
        x.link(5, 2, true);
        x.mark(5, 8);
        dueLasso(x, "!Fs", 0, "012345 j2");
        x.link(5, 2, false);
        x.link(5, 1, true);
        dueLasso(x, "!GFs", 0, "012345 j1");
        dueLasso(x, "!Fs", 1, "12345 j0");
        x.mark(0, 4);
        dueLasso(x, "Fr", 0, null);
    }

    /** The witness is the first lasso of which judge says that its path breaks the formula. */
    private static void witnessIsJudgedBroken() {
        String[] structures = {
            "01 10 12 22", "00 01 12 20", "01 12 23 34 45 50 52", "02 20 21 13 33 31 04 44",
            "05 50 54 45 41 14 11", "01 10 02 20 03 30"
        };
        String[] texts = {
            "0", "Xp", "!XXq", "!Fr", "GFq", "FGp", "pUq", "qRp", "!(Fq&Fr)", "!(FGq|XXXr)",
            "G(p>Xq)", "!(XFp&FGr)", "!(p&X(!p&X(p&X!p)))"
        };
        for (String links : structures) {
            for (String text : texts) {
                for (int s = 0; s < 6; s++) {
                    dueLasso(linked(links), text, s, firstJudgedBroken(links, text, s));
                }
            }
        }
    }

    /** Its states and its j, or null if there is none. */
    private static String firstJudgedBroken(String links, String text, int s) {
        for (int n = 1, rows = 1; n <= 6; n++, rows *= 6) {
            for (int k = 0; k < rows; k++) {
                String row = s + (n == 1 ? "" : digits(k, n - 1));
                for (int j = 0; j < n && isLinked(links, row); j++) {
                    if (isLinked(links, "" + row.charAt(n - 1) + row.charAt(j))
                            && !judged(links, text, row, j)) {
                        return row + " j" + j;
                    }
                }
            }
        }
        return null;
    }

    /** The number k in the order of the states, the first place counting most. */
    private static String digits(int k, int count) {
        String text = Integer.toString(k, 6);
        return "0".repeat(count - text.length()) + text;
    }

    private static boolean isLinked(String links, String row) {
        for (int place = 0; place + 1 < row.length(); place++) {
            if (!links.contains(row.substring(place, place + 2))) {
                return false;
            }
        }
        return true;
    }

    private static boolean judged(String links, String text, String row, int j) {
        PathChecker x = linked(links);
        put(x, text);
        x.formula();
        for (char s : row.toCharArray()) {
            x.go(s - '0');
        }
        return x.judge(j, 0);
    }

    // Promises 15 and 16

    private static void goAndClear() {
        PathChecker x = new PathChecker();
        for (int count = 1; count <= 8; count++) {
            due("15 no state 6", x.go(6), NONE);
            due("15 no state -1", x.go(-1), NONE);
            due("15 how many", x.go(count % 6), count);
        }
        due("15 eight are enough", x.go(0), NONE);
        x.clear();
        put(x, "1");
        x.formula();
        dueThrow("16 empty", IllegalStateException.class, () -> bit(x.judge(0, 0)));
        due("16 from the start", x.go(5), 1);
        x.clear();
        x.clear();
        due("16 cleared twice", x.go(5), 1);
    }

    // Promise 17

    private static void judge() {
        PathChecker x = complete();
        int[] row = {0, 1, 2, 3, 4, 5, 1, 0};
        for (int s : row) {
            x.go(s);
        }
        dueJudged(x, "p", "01000010", "01000010");
        dueJudged(x, "Xp", "10000100", "10000100");
        dueJudged(x, "Fs", "11111111", "11111000");
        dueJudged(x, "GF(r&s)", "00000000", "00000000");
        dueJudged(x, "GFr", "11111111", "00000000");
        dueJudged(x, "!qUp", "11011111", "11011110");
        dueJudged(x, "qRF!q", "11111111", "11111111");
        dueJudged(x, "pR!q", "11011111", "11011111");
        dueJudged(x, "XX(p&q)", "00000000", "00000000");
        x.clear();
        x.go(1);
        put(x, "Gp");
        x.formula();
        due("17 one state that goes on at itself", x.judge(0, 0), true);
    }

    private static void judgeThrows() {
        PathChecker x = new PathChecker();
        dueThrow("17 neither", IllegalStateException.class, () -> bit(x.judge(9, 9)));
        x.go(0);
        dueThrow("17 no formula", IllegalStateException.class, () -> bit(x.judge(0, 0)));
        dueThrow("17 no formula, no place", IllegalStateException.class, () -> bit(x.judge(1, 1)));
        put(x, "1");
        x.formula();
        dueThrow("17 not linked to itself", UnsupportedOperationException.class,
                () -> bit(x.judge(0, 0)));
        dueThrow("17 i is told first", IndexOutOfBoundsException.class, () -> bit(x.judge(0, 1)));
        dueThrow("17 j is told first", IndexOutOfBoundsException.class, () -> bit(x.judge(1, 0)));
        dueThrow("17 i -1", IndexOutOfBoundsException.class, () -> bit(x.judge(0, -1)));
        dueThrow("17 j -1", IndexOutOfBoundsException.class, () -> bit(x.judge(-1, 0)));
        x.go(1);
        x.link(1, 0, true);
        dueThrow("17 the first is not linked", UnsupportedOperationException.class,
                () -> bit(x.judge(0, 0)));
        x.link(0, 1, true);
        due("17 now both are", x.judge(0, 1), true);
        dueThrow("17 not to itself", UnsupportedOperationException.class, () -> bit(x.judge(1, 0)));
        x.link(1, 1, true);
        due("17 now it is", x.judge(1, 0), true);
        dueThrow("17 two places", IndexOutOfBoundsException.class, () -> bit(x.judge(2, 0)));
        x.clear();
        dueThrow("17 the row is empty", IllegalStateException.class, () -> bit(x.judge(0, 0)));
    }

    /** The row's states stay, but what they have and whether the row is a path may change. */
    private static void judgeFollowsAtOnce() {
        PathChecker x = twoLoops();
        x.go(0);
        x.go(1);
        put(x, "Xq");
        x.formula();
        due("17 at first", x.judge(1, 0), true);
        x.mark(1, 1);
        due("7 the marks of now", x.judge(1, 0), false);
        put(x, "XXp");
        x.formula();
        due("5 the formula of now", x.judge(1, 0), true);
        x.link(1, 1, false);
        dueThrow("8 not linked any more", UnsupportedOperationException.class,
                () -> bit(x.judge(1, 0)));
        x.link(1, 1, true);
        due("8 linked again", x.judge(1, 0), true);
        due("15 the row goes on", x.go(1), 3);
        due("15 and is another path", x.judge(2, 2), true);
        dueThrow("15 that needs its own links", UnsupportedOperationException.class,
                () -> bit(x.judge(0, 0)));
        x.clear();
        x.go(0);
        x.mark(0, 0);
        due("16 another row", x.judge(0, 0), false);
        put(x, "q&");
        due("4 a text is no formula yet", x.judge(0, 0), false);
        x.mark(0, 1);
        due("7 the marks of now again", x.judge(0, 0), true);
    }

    private static void meaningOfOperators() {
        PathChecker x = complete();
        x.go(1);
        x.go(2);
        x.go(0);
        String[] holding = {
            "p", "!q", "Xq", "pUq", "Fq", "FG!p", "XXG!(p|q)", "p>Xq", "0>1", "0>0", "1>1",
            "1U1", "0U1", "0R1", "1R1", "pU(qUG!q)", "!(1>0)", "pR(p|q)", "G(p>Xq)"
        };
        String[] broken = {
            "!p", "q", "Xp", "qUr", "pRq", "Gp", "GFp", "XXXp", "p>q", "1>0", "1U0", "1R0", "0U0",
            "FGp", "qRp", "qU!p", "pUr", "!(0>1)"
        };
        for (String text : holding) {
            put(x, text);
            x.formula();
            due("17 holds: " + text, x.judge(2, 0), true);
        }
        for (String text : broken) {
            put(x, text);
            x.formula();
            due("17 does not hold: " + text, x.judge(2, 0), false);
        }
    }

    // Structures

    /** 0 with p stays or goes to 1, 1 with q stays; 2 has no link. */
    private static PathChecker twoLoops() {
        PathChecker x = new PathChecker();
        x.mark(0, 1);
        x.mark(1, 2);
        x.link(0, 0, true);
        x.link(0, 1, true);
        x.link(1, 1, true);
        return x;
    }

    /** The links are two digits each; 0 and 3 have p, 1 and 4 have q, 2 and 4 have r. */
    private static PathChecker linked(String links) {
        PathChecker x = new PathChecker();
        for (String link : links.split(" ")) {
            x.link(link.charAt(0) - '0', link.charAt(1) - '0', true);
        }
        int[] marks = {1, 2, 4, 1, 6, 0};
        for (int s = 0; s < 6; s++) {
            x.mark(s, marks[s]);
        }
        return x;
    }

    /** Every state is linked to every one; 1, 2, 3, 4 have p, q, r, s. */
    private static PathChecker complete() {
        PathChecker x = new PathChecker();
        for (int a = 0; a < 6; a++) {
            for (int b = 0; b < 6; b++) {
                x.link(a, b, true);
            }
        }
        for (int s = 1; s < 5; s++) {
            x.mark(s, 1 << (s - 1));
        }
        return x;
    }

    // Helpers

    private static long pack(String text) {
        long part = 0;
        for (int i = 0; i < text.length(); i++) {
            part = part << 8 | text.charAt(i);
        }
        return part;
    }

    private static void put(PathChecker x, String text) {
        for (int i = 0; i < text.length(); i += 8) {
            String part = text.substring(i, Math.min(i + 8, text.length()));
            due("2 type " + text, x.type(pack(part)), true);
        }
    }

    private static String form(PathChecker x) {
        StringBuilder found = new StringBuilder();
        for (int k = 0; k < x.normal(-1); k++) {
            found.append((char) x.normal(k));
        }
        return found.toString();
    }

    private static int bit(boolean value) {
        return value ? 1 : 0;
    }

    private static void dueFormula(String text, int timed) {
        PathChecker x = new PathChecker();
        put(x, text);
        due("5 formula " + text, x.formula(), timed);
        due("5 the text is empty behind " + text, x.length(), 0);
    }

    private static void dueForm(String text, String want) {
        PathChecker x = new PathChecker();
        put(x, text);
        x.formula();
        due("6 normal form of " + text, form(x), want);
        due("6 its end", x.normal(want.length()), NONE);
    }

    private static void dueSets(PathChecker x, String text, int breaking, int keeping) {
        put(x, text);
        x.formula();
        due("12 breaking " + text, x.breaking(), breaking);
        due("13 keeping " + text, x.keeping(), keeping);
        for (int s = 0; s < 6; s++) {
            due("11 keeps " + text + " from " + s, x.keeps(s), (breaking >> s & 1) == 0);
        }
    }

    private static void dueLasso(PathChecker x, String text, int s, String want) {
        put(x, text);
        x.formula();
        int n = x.witness(s, -1);
        if (n == NONE) {
            due("14 witness of " + text, "none", want == null ? "none" : want);
            return;
        }
        StringBuilder found = new StringBuilder();
        for (int k = 0; k < n; k++) {
            found.append(x.witness(s, k));
        }
        found.append(" j").append(x.witness(s, -2));
        due("14 witness of " + text, found.toString(), want);
        due("14 behind the witness of " + text, x.witness(s, n), NONE);
    }

    /** The answers for all i, when the last of eight states goes on at 0 and at 7. */
    private static void dueJudged(PathChecker x, String text, String at0, String at7) {
        put(x, text);
        x.formula();
        StringBuilder found0 = new StringBuilder();
        StringBuilder found7 = new StringBuilder();
        for (int i = 0; i < 8; i++) {
            found0.append(bit(x.judge(0, i)));
            found7.append(bit(x.judge(7, i)));
        }
        due("17 " + text + " going on at 0", found0.toString(), at0);
        due("17 " + text + " going on at 7", found7.toString(), at7);
    }

    private static void dueThrow(String what, Class<?> want, IntSupplier call) {
        String found;
        try {
            found = "answered " + call.getAsInt();
        } catch (RuntimeException e) {
            found = e.getClass().getName();
        }
        due(what, found, want.getName());
    }

    private static void due(String what, Object found, Object want) {
        if (!found.equals(want)) {
            wrong++;
            System.out.println("promise " + what + ": " + found + ", due is " + want);
        }
    }
}
