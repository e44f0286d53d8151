/** The boundary cases of promises 7 to 9 and of the terms that they use, a test for each sentence. */
final class FormulaBoundsTest {
    private static final int BAD = Story.BAD;
    private static final int FULL = Story.FULL;
    private static final int[] ANY = {Integer.MIN_VALUE, -1, 0, 8, 40, Integer.MAX_VALUE};
    private static final int[] OUT_OF_VARIABLES = Story.outOf(0, 5);
    /** ALL_KINDS makes formulas 0 .. 6. */
    private static final int[] OUT_OF_FORMULAS = Story.outOf(0, 6);
    private static final Check check = new Check("FormulaBoundsTest");

    public static void main(String[] args) {
        kinds();
        constants();
        holdsOfNoPlace();
        holdsOfOnePlace();
        holdsOfTwoPlaces();
        sames();
        nots();
        andsAndOrs();
        quantifiers();
        closures();
        noFormulasYet();
        depthOfLeaves();
        deepest();
        closureInClosure();
        fortyFormulas();
        badBeforeFull();
        freeRange();
        freeBits();
        freeWhereBound();
        valueRange();
        valueOfOthers();
        valueOfFirst();
        valueOfSecond();
        valueWithoutIndividuals();
        noneToQuantify();
        sixToQuantify();
        closureOfOne();
        closureOfSix();
        closureInAnyOrder();
        closureOfOnePlace();
        check.end();
    }

    private static Story rich(String sentence) {
        return new Story(check, sentence, Story.ALL_KINDS);
    }

    /** Each right call makes the next formula; so many may be made before there are 40. */
    private static void makes(String sentence, String text, int... numbers) {
        for (int from = 0; from < numbers.length; from += 30) {
            Story story = rich(sentence);
            for (int i = from; i < numbers.length && i < from + 30; i++) {
                story.due(7 + i - from, text, numbers[i]);
            }
        }
    }

    private static void kinds() {
        Story story = rich("formula: BAD when kind .. is out of its range");
        story.still(BAD, "formula(#, 0, 0, 0, 0)", Story.outOf(0, 8));
        for (int kind = 0; kind < 9; kind++) {
            story.due(7 + kind, "formula(" + kind + ", 0, 0, 0, 0)");
        }
    }

    private static void constants() {
        Story story = rich("0 CONSTANT (a value)");
        story.still(BAD, "formula(0, #, 0, 0, 0)", Story.outOf(0, 2));
        for (int value = 0; value < 3; value++) {
            story.due(7 + value, "formula(0, " + value + ", 0, 0, 0)");
            story.due(value, "value(0, " + (7 + value) + ", 0, 0)");
        }
        makes("0 CONSTANT needs a alone", "formula(0, 2, #, #, #)", ANY);
    }

    private static void holdsOfNoPlace() {
        Story story = rich("1 HOLDS (a predicate a, 0 .. 7, variables b, c as far as it needs them)");
        story.still(BAD, "formula(1, #, 0, 0, 0)", Story.outOf(0, 7));
        for (int p = 0; p < 8; p++) {
            story.due(7 + p, "formula(1, " + p + ", 0, 0, 0)");
        }
        for (int p = 0; p < 2; p++) {
            makes("HOLDS of no place needs no variable", "formula(1, " + p + ", #, #, #)", ANY);
        }
        Story value = rich("HOLDS of no place needs no variable");
        value.make("formula(1, 1, -1, 6, 0)");
        value.still(2, "value(0, 7, #, #)", ANY);
        value.still(0, "free(7)");
    }

    private static void holdsOfOnePlace() {
        for (int p = 2; p < 6; p++) {
            Story story = rich("HOLDS of one place needs b, one of VARIABLES 0 .. 5");
            story.still(BAD, "formula(1, " + p + ", #, 0, 0)", OUT_OF_VARIABLES);
            makes("HOLDS of one place: b 0 .. 5", "formula(1, " + p + ", #, 0, 0)", 0, 1, 2, 3, 4, 5);
            makes("HOLDS of one place does not need c", "formula(1, " + p + ", 0, #, #)", ANY);
        }
        Story value = rich("HOLDS of one place does not need c");
        value.make("formula(1, 2, 0, 6, 0)", "formula(1, 2, 0, -1, 0)");
        value.still(2, "value(0, #, 1, -1)", 7, 8);
        value.still(1, "free(#)", 7, 8);
    }

    private static void holdsOfTwoPlaces() {
        for (int p = 6; p < 8; p++) {
            Story story = rich("HOLDS of two places needs b and c, of VARIABLES 0 .. 5");
            story.still(BAD, "formula(1, " + p + ", #, 0, 0)", OUT_OF_VARIABLES);
            story.still(BAD, "formula(1, " + p + ", 0, #, 0)", OUT_OF_VARIABLES);
            story.still(BAD, "formula(1, " + p + ", #, #, 0)", OUT_OF_VARIABLES);
            makes("HOLDS of two places: b 0 .. 5", "formula(1, " + p + ", #, 0, 0)", 0, 1, 2, 3, 4, 5);
            makes("HOLDS of two places: c 0 .. 5", "formula(1, " + p + ", 0, #, 0)", 0, 1, 2, 3, 4, 5);
            makes("HOLDS of two places does not need d", "formula(1, " + p + ", 0, 5, #)", ANY);
        }
    }

    private static void sames() {
        Story story = rich("2 SAME of variables b, c");
        story.still(BAD, "formula(2, 0, #, 0, 0)", OUT_OF_VARIABLES);
        story.still(BAD, "formula(2, 0, 0, #, 0)", OUT_OF_VARIABLES);
        makes("SAME: b 0 .. 5", "formula(2, 0, #, 0, 0)", 0, 1, 2, 3, 4, 5);
        makes("SAME: c 0 .. 5", "formula(2, 0, 0, #, 0)", 0, 1, 2, 3, 4, 5);
        makes("SAME needs no a and no d", "formula(2, #, 5, 5, #)", ANY);
    }

    private static void nots() {
        Story story = rich("3 NOT of formula c");
        story.still(BAD, "formula(3, 0, 0, #, 0)", OUT_OF_FORMULAS);
        makes("NOT: c is the first or the last", "formula(3, 0, 0, #, 0)", 0, 6, 7, 8, 9);
        makes("NOT needs c alone", "formula(3, #, #, 0, #)", ANY);
    }

    private static void andsAndOrs() {
        for (int kind = 4; kind < 6; kind++) {
            Story story = rich("4 AND, 5 OR of formulas c, d");
            story.still(BAD, "formula(" + kind + ", 0, 0, #, 0)", OUT_OF_FORMULAS);
            story.still(BAD, "formula(" + kind + ", 0, 0, 0, #)", OUT_OF_FORMULAS);
            story.still(BAD, "formula(" + kind + ", 0, 0, #, #)", OUT_OF_FORMULAS);
            makes("AND, OR: c is the first or the last", "formula(" + kind + ", 0, 0, #, 0)", 0, 6);
            makes("AND, OR: d is the first or the last", "formula(" + kind + ", 0, 0, 0, #)", 0, 6);
            makes("AND, OR need no a and no b", "formula(" + kind + ", #, #, 6, 6)", ANY);
        }
    }

    private static void quantifiers() {
        for (int kind = 6; kind < 8; kind++) {
            Story story = rich("6 EXISTS, 7 FORALL (a variable a, formula c)");
            story.still(BAD, "formula(" + kind + ", #, 0, 0, 0)", OUT_OF_VARIABLES);
            story.still(BAD, "formula(" + kind + ", 0, 0, #, 0)", OUT_OF_FORMULAS);
            makes("EXISTS, FORALL: a 0 .. 5", "formula(" + kind + ", #, 0, 0, 0)", 0, 1, 2, 3, 4, 5);
            makes("EXISTS, FORALL: c is the first or the last", "formula(" + kind + ", 0, 0, #, 0)", 0, 6);
            makes("EXISTS, FORALL need no b and no d", "formula(" + kind + ", 5, #, 6, #)", ANY);
        }
    }

    private static void closures() {
        Story story = rich("8 CLOSURE of formula c, from variable a to b");
        story.still(BAD, "formula(8, #, 0, 3, 0)", OUT_OF_VARIABLES);
        story.still(BAD, "formula(8, 0, #, 3, 0)", OUT_OF_VARIABLES);
        story.still(BAD, "formula(8, 0, 1, #, 0)", OUT_OF_FORMULAS);
        makes("CLOSURE: a 0 .. 5", "formula(8, #, 0, 3, 0)", 0, 1, 2, 3, 4, 5);
        makes("CLOSURE: b 0 .. 5", "formula(8, 0, #, 3, 0)", 0, 1, 2, 3, 4, 5);
        makes("CLOSURE: c is the first or the last", "formula(8, 0, 1, #, 0)", 0, 6);
        makes("CLOSURE needs no d", "formula(8, 5, 5, 3, #)", ANY);
    }

    private static void noFormulasYet() {
        Story story = new Story(check, "formula: no formula is there to be a part");
        for (int kind = 3; kind < 9; kind++) {
            story.still(BAD, "formula(" + kind + ", 0, 0, #, #)", -1, 0, 1);
        }
        story.due(0, "formula(0, 0, 0, 0, 0)");
        for (int kind = 3; kind < 9; kind++) {
            story.still(BAD, "formula(" + kind + ", 0, 0, 1, 1)");
        }
    }

    /** Four steps round each kind of leaf are taken, a fifth is not. */
    private static void depthOfLeaves() {
        String[] leaves = {"formula(0, 2, 0, 0, 0)", "formula(1, 1, 0, 0, 0)", "formula(1, 5, 3, 0, 0)",
            "formula(1, 7, 5, 2, 0)", "formula(2, 0, 1, 5, 0)"};
        for (String leaf : leaves) {
            Story story = new Story(check, "A formula's DEPTH is 0 for 0 to 2", leaf);
            for (int f = 1; f <= 4; f++) {
                story.due(f, "formula(3, 0, 0, " + (f - 1) + ", 0)");
            }
            story.still(BAD, "formula(3, 0, 0, 4, 0)");
        }
    }

    /** Formula f is of depth f up to 4; each kind is tried as the fifth and as the fourth step. */
    private static void deepest() {
        String[] chain = {"formula(0, 1, 0, 0, 0)", "formula(3, 0, 0, 0, 0)", "formula(3, 0, 0, 1, 0)",
            "formula(3, 0, 0, 2, 0)", "formula(3, 0, 0, 3, 0)"};
        String[] rounds = {"formula(3, 0, 0, #, 0)", "formula(4, 0, 0, #, 0)", "formula(4, 0, 0, 0, #)",
            "formula(4, 0, 0, #, #)", "formula(5, 0, 0, #, 0)", "formula(5, 0, 0, 0, #)", "formula(5, 0, 0, #, #)",
            "formula(6, 0, 0, #, 0)", "formula(7, 0, 0, #, 0)", "formula(8, 0, 1, #, 0)"};
        for (String round : rounds) {
            Story story = new Story(check, "otherwise one more than that of its deeper part; at most 4", chain);
            story.still(BAD, round, 4);
            story.due(5, round, 3);
            story.still(BAD, "formula(3, 0, 0, 5, 0)");
            story.due(6, round, 2);
            story.due(7, "formula(3, 0, 0, 6, 0)");
            story.still(BAD, "formula(3, 0, 0, 7, 0)");
            story.due(8, round, 0);
            story.due(9, "formula(3, 0, 0, 8, 0)");
            story.due(10, "formula(3, 0, 0, 9, 0)");
            story.due(11, "formula(3, 0, 0, 10, 0)");
            story.still(BAD, "formula(3, 0, 0, 11, 0)");
        }
    }

    private static void closureInClosure() {
        String[] rounds = {"formula(3, 0, 0, 1, 0)", "formula(4, 0, 0, 1, 0)", "formula(4, 0, 0, 0, 1)",
            "formula(5, 0, 0, 1, 0)", "formula(5, 0, 0, 0, 1)", "formula(6, 0, 0, 1, 0)", "formula(7, 0, 0, 1, 0)"};
        for (String round : rounds) {
            Story story = new Story(check, "The c of a CLOSURE has no CLOSURE in it.",
                "formula(1, 6, 4, 5, 0)", "formula(8, 0, 1, 0, 0)");
            story.still(BAD, "formula(8, 0, 1, 1, 0)");
            story.due(2, round);
            story.still(BAD, "formula(8, 4, 5, 2, 0)");
            story.due(3, "formula(3, 0, 0, 2, 0)");
            story.still(BAD, "formula(8, 4, 5, 3, 0)");
            story.due(4, "formula(4, 0, 0, 1, 1)");
            story.still(BAD, "formula(8, 0, 1, 4, 0)");
            story.due(5, "formula(8, 2, 3, 0, 0)");
        }
    }

    private static void fortyFormulas() {
        Story story = new Story(check, "FORMULAS have numbers 0, 1, .. in the order of making, at most 40.");
        for (int f = 0; f < 40; f++) {
            story.due(f, "formula(0, " + f % 3 + ", 0, 0, 0)");
        }
        for (int kind = 0; kind < 9; kind++) {
            story.still(FULL, "formula(" + kind + ", 0, 0, 0, 0)");
        }
        story.still(FULL, "formula(3, 0, 0, 39, 0)");
        story.still(0, "free(39)");
        story.still(0, "value(0, 39, 0, 0)");
        story.still(1, "value(0, 37, 0, 0)");
        story.still(BAD, "free(40)");
        story.still(BAD, "value(0, 40, 0, 0)");
        story.still(BAD, "rule(40, 2, 1)");
        story.due(1, "rule(39, 2, 1)");
        story.still(BAD, "edge(0, 0, 15, 40)");
        story.due(0, "edge(0, 0, 15, 39)");
        story.still(BAD, "change(0, 0, 40)");
        story.due(1, "change(0, 0, 39)");
        story.due(1, "start(0, 0)");
        story.still(BAD, "known(0, 40)");
        story.still(0, "known(0, 39)");
    }

    /** Formulas 0 .. 4 are of depth 0 .. 4, 6 has a closure, the others fill up to 40. */
    private static void badBeforeFull() {
        Story story = new Story(check, "formula: BAD when ..; then FULL", "formula(0, 1, 0, 0, 0)", "formula(3, 0, 0, 0, 0)",
            "formula(3, 0, 0, 1, 0)", "formula(3, 0, 0, 2, 0)", "formula(3, 0, 0, 3, 0)", "formula(1, 6, 4, 5, 0)",
            "formula(8, 0, 1, 5, 0)");
        for (int f = 7; f < 40; f++) {
            story.make("formula(1, 2, 0, 0, 0)");
        }
        String[] wrong = {"formula(-1, 0, 0, 0, 0)", "formula(9, 0, 0, 0, 0)", "formula(0, -1, 0, 0, 0)",
            "formula(0, 3, 0, 0, 0)", "formula(1, -1, 0, 0, 0)", "formula(1, 8, 0, 0, 0)", "formula(1, 2, 6, 0, 0)",
            "formula(1, 2, -1, 0, 0)", "formula(1, 6, 0, 6, 0)", "formula(1, 7, 0, -1, 0)", "formula(1, 7, 6, 0, 0)",
            "formula(2, 0, 6, 0, 0)", "formula(2, 0, 0, -1, 0)", "formula(3, 0, 0, 40, 0)", "formula(3, 0, 0, -1, 0)",
            "formula(4, 0, 0, 40, 0)", "formula(4, 0, 0, 0, 40)", "formula(5, 0, 0, -1, 0)", "formula(5, 0, 0, 0, -1)",
            "formula(6, 6, 0, 0, 0)", "formula(6, 0, 0, 40, 0)", "formula(7, -1, 0, 0, 0)", "formula(7, 0, 0, -1, 0)",
            "formula(8, 6, 0, 5, 0)", "formula(8, 0, 6, 5, 0)", "formula(8, 0, 0, 40, 0)", "formula(3, 0, 0, 4, 0)",
            "formula(4, 0, 0, 4, 0)", "formula(5, 0, 0, 0, 4)", "formula(6, 0, 0, 4, 0)", "formula(7, 0, 0, 4, 0)",
            "formula(8, 0, 0, 4, 0)", "formula(8, 0, 0, 6, 0)"};
        for (String call : wrong) {
            story.still(BAD, call);
        }
        String[] right = {"formula(0, 2, 0, 0, 0)", "formula(1, 7, 5, 5, 0)", "formula(2, 0, 5, 5, 0)",
            "formula(3, 0, 0, 3, 0)", "formula(4, 0, 0, 3, 39)", "formula(5, 0, 0, 39, 3)", "formula(6, 5, 0, 39, 0)",
            "formula(7, 5, 0, 39, 0)", "formula(8, 5, 5, 39, 0)"};
        for (String call : right) {
            story.still(FULL, call);
        }
    }

    private static void freeRange() {
        Story story = rich("The free variables of formula f, as bits; BAD when there is none.");
        story.still(BAD, "free(#)", OUT_OF_FORMULAS);
        int[] dues = {0, 1, 0, 3, 0, 4, 0};
        for (int f = 0; f < 7; f++) {
            story.still(dues[f], "free(" + f + ")");
        }
    }

    private static void freeBits() {
        Story story = new Story(check, "A variable is FREE in it if it stands in it and is not bound");
        for (int v = 0; v < 6; v++) {
            story.make("formula(1, 2, " + v + ", 0, 0)", "formula(1, 6, " + v + ", " + (5 - v) + ", 0)",
                "formula(2, 0, " + v + ", " + v + ", 0)");
            story.due(1 << v, "free(" + 3 * v + ")");
            story.due(1 << v | 1 << 5 - v, "free(" + (3 * v + 1) + ")");
            story.due(1 << v, "free(" + (3 * v + 2) + ")");
        }
    }

    /** Formula 2 has all six variables free. */
    private static void freeWhereBound() {
        String[] all = {"formula(1, 6, 0, 1, 0)", "formula(1, 7, 2, 3, 0)", "formula(2, 0, 4, 5, 0)",
            "formula(4, 0, 0, 0, 1)", "formula(5, 0, 0, 2, 3)"};
        Story story = new Story(check, "6, 7 bind a, 8 binds 4 and 5 within c", all);
        story.due(15, "free(3)");
        story.due(63, "free(4)");
        int f = 5;
        for (int kind = 6; kind < 8; kind++) {
            for (int v = 0; v < 6; v++) {
                story.due(f, "formula(" + kind + ", " + v + ", 0, 4, 0)");
                story.due(63 & ~(1 << v), "free(" + f + ")");
                f++;
            }
        }
        for (int a = 0; a < 6; a++) {
            story.due(f, "formula(8, " + a + ", " + (a + 1) % 6 + ", 4, 0)");
            story.due(15 | 1 << a | 1 << (a + 1) % 6, "free(" + f + ")");
            f++;
            story.due(f, "formula(8, " + a + ", " + a + ", 2, 0)");
            story.due(1 << a, "free(" + f + ")");
            f++;
        }
        story.due(f, "formula(6, 4, 0, 0, 0)");
        story.due(3, "free(" + f + ")");
    }

    private static void valueRange() {
        Story story = rich("value: BAD when there is no such slot or formula");
        story.still(BAD, "value(#, 0, 0, 0)", Story.outOf(0, 3));
        story.still(BAD, "value(0, #, 0, 0)", OUT_OF_FORMULAS);
        story.still(BAD, "value(4, 7, 0, 0)");
        story.still(1, "value(#, 0, 0, 0)", Story.range(0, 3));
        story.still(1, "value(2, 6, 0, 0)");
    }

    private static void valueOfOthers() {
        Story story = rich("value: BAD when .. it has other free variables than these");
        for (int v = 2; v < 6; v++) {
            story.make("formula(1, 2, " + v + ", 0, 0)", "formula(2, 0, 0, " + v + ", 0)", "formula(1, 6, " + v + ", 1, 0)");
        }
        story.still(BAD, "value(0, #, 0, 1)", Story.range(7, 18));
        story.still(BAD, "value(2, #, 0, 0)", Story.range(7, 18));
        for (int f = 0; f < 4; f++) {
            story.due(19 + f, "formula(6, " + (2 + f) + ", 0, " + (7 + 3 * f) + ", 0)");
            story.still(2, "value(0, " + (19 + f) + ", -1, -1)");
        }
    }

    private static void valueOfFirst() {
        Story story = rich("value: with x as variable 0; BAD when .. it is free and not an individual");
        int[] sizes = {2, 1, 0, 3};
        for (int s = 0; s < 4; s++) {
            story.still(BAD, "value(" + s + ", 1, #, 0)", Story.outOf(0, sizes[s] - 1));
        }
        story.still(1, "value(3, 1, 0, #)", ANY);
        story.still(0, "value(3, 1, 2, #)", ANY);
        story.still(2, "value(0, 2, #, #)", ANY);
    }

    private static void valueOfSecond() {
        Story story = rich("value: y as variable 1; BAD when .. it is free and not an individual");
        story.make("formula(1, 2, 1, 0, 0)");
        int[] sizes = {2, 1, 0, 3};
        for (int s = 0; s < 4; s++) {
            story.still(BAD, "value(" + s + ", 7, 0, #)", Story.outOf(0, sizes[s] - 1));
            story.still(BAD, "value(" + s + ", 3, 0, #)", Story.outOf(0, sizes[s] - 1));
            story.still(BAD, "value(" + s + ", 3, #, 0)", Story.outOf(0, sizes[s] - 1));
        }
        story.still(1, "value(3, 7, #, 0)", ANY);
        story.still(0, "value(3, 7, #, 2)", ANY);
        story.still(1, "value(3, 3, 1, 2)");
        story.still(0, "value(3, 3, 2, 1)");
    }

    private static void valueWithoutIndividuals() {
        Story story = rich("value: no x and no y is an individual where there are none");
        story.still(BAD, "value(2, 1, #, #)", -1, 0, 1);
        story.still(BAD, "value(2, 3, #, #)", -1, 0, 1);
        story.still(1, "value(2, 6, #, #)", ANY);
        story.still(0, "value(2, 2, #, #)", ANY);
    }

    private static void noneToQuantify() {
        Story story = new Story(check, "OR, or AND, of c's values for all individuals as a (0, or 1, if there are none)");
        for (int value = 0; value < 3; value++) {
            story.make("formula(0, " + value + ", 0, 0, 0)", "formula(6, 0, 0, " + 3 * value + ", 0)",
                "formula(7, 0, 0, " + 3 * value + ", 0)");
            story.due(0, "value(0, " + (3 * value + 1) + ", 0, 0)");
            story.due(1, "value(0, " + (3 * value + 2) + ", 0, 0)");
        }
        story.make("universe(0, 1)");
        for (int value = 0; value < 3; value++) {
            story.due(value, "value(0, " + (3 * value + 1) + ", 0, 0)");
            story.due(value, "value(0, " + (3 * value + 2) + ", 0, 0)");
        }
    }

    /** The first and the last individual count, and none beyond the last. */
    private static void sixToQuantify() {
        for (int n = 1; n <= 6; n++) {
            Story story = new Story(check, "EXISTS, FORALL: for all individuals, none left out and none beyond",
                "universe(0, " + n + ")", "formula(1, 4, 3, 0, 0)", "formula(6, 3, 0, 0, 0)", "formula(7, 3, 0, 0, 0)");
            story.due(0, "value(0, 1, 0, 0)");
            for (int u : new int[] {0, n - 1}) {
                story.make("put(0, 4, " + u + ", 0, 2)");
                story.due(2, "value(0, 1, 0, 0)");
                story.make("put(0, 4, " + u + ", 0, 1)");
                story.due(1, "value(0, 1, 0, 0)");
                story.make("put(0, 4, " + u + ", 0, 0)");
            }
            for (int u = 0; u < n; u++) {
                story.due(0, "value(0, 2, 0, 0)");
                story.make("put(0, 4, " + u + ", 0, 1)");
            }
            story.due(1, "value(0, 2, 0, 0)");
            for (int u : new int[] {0, n - 1}) {
                story.make("put(0, 4, " + u + ", 0, 2)");
                story.due(2, "value(0, 2, 0, 0)");
                story.make("put(0, 4, " + u + ", 0, 1)");
            }
        }
    }

    private static void closureOfOne() {
        Story story = new Story(check, "T(u, w) = R(u, w) OR, for any individual x, (T(u, x) AND R(x, w)): of one individual",
            "universe(0, 1)", "formula(1, 6, 4, 5, 0)", "formula(8, 0, 1, 0, 0)", "formula(8, 0, 0, 0, 0)");
        for (int value = 0; value < 3; value++) {
            story.make("put(0, 6, 0, 0, " + value + ")");
            story.due(value, "value(0, 1, 0, 0)");
            story.due(value, "value(0, 2, 0, 9)");
        }
    }

    /** A chain through all six, once upwards and once downwards, with a HALF first, last or nowhere. */
    private static void closureOfSix() {
        for (int half = -1; half < 5; half++) {
            for (boolean up : new boolean[] {true, false}) {
                Story story = new Story(check, "CLOSURE: the longest way through six individuals",
                    "universe(0, 6)", "formula(1, 7, 4, 5, 0)", "formula(8, 0, 1, 0, 0)");
                for (int i = 0; i < 5; i++) {
                    int from = up ? i : 5 - i;
                    int to = up ? i + 1 : 4 - i;
                    story.make("put(0, 7, " + from + ", " + to + ", " + (i == half ? 2 : 1) + ")");
                }
                int first = up ? 0 : 5;
                int last = 5 - first;
                story.due(half >= 0 ? 2 : 1, "value(0, 1, " + first + ", " + last + ")");
                story.due(0, "value(0, 1, " + last + ", " + first + ")");
                story.due(0, "value(0, 1, #, #)", Story.range(0, 5));
                story.make("put(0, 7, " + last + ", " + first + ", 1)");
                story.due(half >= 0 ? 2 : 1, "value(0, 1, #, #)", Story.range(0, 5));
            }
        }
    }

    /** From one, another is reached half at once and surely by way of a third, and a fourth from there. */
    private static void closureInAnyOrder() {
        for (int code = 0; code < 256; code++) {
            int from = code / 64;
            int half = code / 16 % 4;
            int by = code / 4 % 4;
            int to = code % 4;
            if ((1 << from | 1 << half | 1 << by | 1 << to) == 15) {
                Story story = new Story(check, "CLOSURE: the greatest of all ways, whatever the numbers are", "universe(0, 4)",
                    "formula(1, 6, 4, 5, 0)", "formula(8, 0, 1, 0, 0)", "put(0, 6, " + from + ", " + half + ", 2)",
                    "put(0, 6, " + from + ", " + by + ", 1)", "put(0, 6, " + by + ", " + half + ", 1)",
                    "put(0, 6, " + half + ", " + to + ", 1)");
                story.due(1, "value(0, 1, " + from + ", " + half + ")");
                story.due(1, "value(0, 1, " + from + ", " + to + ")");
                story.due(0, "value(0, 1, " + to + ", " + from + ")");
                story.due(0, "value(0, 1, " + from + ", " + from + ")");
            }
        }
    }

    /** The step asks for predicates of one place, of the one that is left and of the one that is reached. */
    private static void closureOfOnePlace() {
        for (int n = 1; n <= 6; n++) {
            Story story = new Story(check, "R(u, w) the value of c with u as variable 4 and w as variable 5", "universe(0, " + n + ")",
                "formula(1, 2, 4, 0, 0)", "formula(1, 3, 5, 0, 0)", "formula(4, 0, 0, 0, 1)", "formula(8, 0, 1, 2, 0)",
                "formula(8, 0, 1, 0, 0)", "formula(8, 0, 1, 1, 0)", "put(0, 2, 0, 0, 1)", "put(0, 3, " + (n - 1) + ", 0, 2)");
            story.due(2, "value(0, 3, 0, " + (n - 1) + ")");
            story.due(n > 1 ? 0 : 2, "value(0, 3, " + (n - 1) + ", 0)");
            story.due(1, "value(0, 4, 0, #)", Story.range(0, n - 1));
            story.due(2, "value(0, 5, #, " + (n - 1) + ")", Story.range(0, n - 1));
            story.make("put(0, 3, " + (n - 1) + ", 0, 1)");
            story.due(1, "value(0, 3, 0, " + (n - 1) + ")");
            story.due(1, "value(0, 5, #, " + (n - 1) + ")", Story.range(0, n - 1));
        }
    }
}
