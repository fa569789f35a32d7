import java.util.function.Supplier;

/** Boundary cases of promises 18 and 19: the search for a row of HIDDEN, what it counts, where it is SPENT. */
public final class PartingEdgesTest extends Edges {
    private static final int[] BELOW_ZERO = {-1, -2, -3, -5, -6, -1000, LEAST, LEAST + 1};

    public static void main(String[] args) throws ReflectiveOperationException {
        run(PartingEdgesTest.class);
    }

    private static LooksTogether oneLook(int weight, int other) {
        return weigh(with(2, 1), 0, weight, other);
    }

    /** The search would find a row with the 20000th HIDDEN that is tried. */
    private static LooksTogether foundWithThe20000th() {
        LooksTogether x = with(4, 9, 12, 6, 10);
        weigh(x, 0, 5, 2, 4, 6);
        weigh(x, 1, 5, 2, 10, 0);
        weigh(x, 2, 9, 6, 1, 1);
        return weigh(x, 3, 4, 3, 6, 4);
    }

    /** The search ends without a row after the 20000th. */
    private static LooksTogether endedWithThe20000th() {
        LooksTogether x = with(4, 5, 2, 3, 6, 1);
        weigh(x, 0, 4, 4, 1, 4);
        weigh(x, 1, 5, 8);
        weigh(x, 2, 0, 5, 5, 3);
        weigh(x, 3, 5, 3, 0, 5);
        return weigh(x, 4, 5, 8);
    }

    /** There is a row, found with the 20001st, were it tried. */
    private static LooksTogether foundWithThe20001st() {
        LooksTogether x = with(5, 10, 20, 17, 24, 5);
        weigh(x, 0, 2, 3, 2, 5);
        weigh(x, 1, 2, 4, 6, 0);
        weigh(x, 2, 4, 2, 3, 3);
        weigh(x, 3, 3, 3, 2, 4);
        return weigh(x, 4, 4, 4, 3, 1);
    }

    /** There is no row, which the 20001st would show, were it tried. */
    private static LooksTogether endedWithThe20001st() {
        LooksTogether x = with(4, 9, 6, 3, 5);
        weigh(x, 0, 5, 3, 4, 5);
        weigh(x, 1, 5, 3, 5, 4);
        weigh(x, 2, 3, 7, 6, 1);
        return weigh(x, 3, 0, 8, 9, 0);
    }

    // ---- promise 18: "Whether it can be PARTED: 1, 0; SPENT. STATE: no SETS, it does not AGREE, T is not 1 to 24."

    private static void dueState(Supplier<LooksTogether> made) {
        refused(made, "parted()", LooksTogether::parted, STATE);
        refused(made, "part(0)", x -> x.part(0), STATE);
        refused(made, "part(24)", x -> x.part(24), STATE);
        refused(made, "part(MOST)", x -> x.part(MOST), STATE);
        refused(made, "part(NONE)", x -> x.part(NONE), STATE);
    }

    static void noSetsIsState() {
        dueState(LooksTogether::new);
        dueState(() -> {
            LooksTogether x = oneLook(1, 0);
            x.parted();
            x.drop();
            return x;
        });
        dueState(() -> {
            LooksTogether x = oneLook(1, 0);
            x.parted();
            x.looks(2);
            return x;
        });
    }

    static void aTableThatDoesNotAgreeIsState() {
        dueState(Edges::quarrelling);
        dueState(() -> {
            LooksTogether x = oneLook(1, 0);
            x.parted();
            x.put(2);
            return x;
        });
    }

    static void aSumOfZeroIsState() {
        dueState(() -> oneLook(0, 0));
        dueState(() -> with(4, EIGHT_SETS));
    }

    static void aSumOfOneIsTheLeast() {
        LooksTogether x = oneLook(0, 1);
        due("parted", x.parted(), 1);
        due("part(0)", x.part(0), 1);
        due("part(1)", x.part(1), NONE);
        due("0 and 1 were tried", x.part(NONE), 2);
    }

    static void aSumOf24IsTheMost() {
        LooksTogether x = oneLook(12, 12);
        due("parted", x.parted(), 1);
        for (int i = 0; i < 24; i++) {
            due("part(" + i + ")", x.part(i), i < 12 ? 0 : 1);
        }
        due("part(24)", x.part(24), NONE);
        due("12 times 0, 0, 12 times 1", x.part(NONE), 25);
    }

    static void aSumOf25IsState() {
        dueState(() -> oneLook(12, 13));
        dueState(() -> oneLook(25, 0));
        dueState(() -> weigh(with(3, 7), 0, 1000, 1000, 1000, 1000, 1000, 1000, 1000, 1000));
    }

    static void partedMayBeZero() {
        LooksTogether x = ring();
        due("parted", x.parted(), 0);
        due("part(0)", x.part(0), NONE);
        due("part(1)", x.part(1), NONE);
        due("all were tried", x.part(NONE), 16);
    }

    // ---- promise 19: "HIDDEN i of the row; how many were tried (i NONE). BAD: i below 0, but for NONE"

    static void partBelowZeroIsBad() {
        for (int i : BELOW_ZERO) {
            refused(Edges::some, "part(" + i + ")", x -> x.part(i), BAD);
            refused(Edges::ring, "part(" + i + ")", x -> x.part(i), BAD);
        }
    }

    static void partIsBadAheadOfState() {
        for (int i : BELOW_ZERO) {
            refused(LooksTogether::new, "part(" + i + ")", x -> x.part(i), BAD);
            refused(Edges::quarrelling, "part(" + i + ")", x -> x.part(i), BAD);
            refused(() -> oneLook(25, 0), "part(" + i + ")", x -> x.part(i), BAD);
        }
    }

    static void partOfNoneIsHowManyWereTriedAndNotBad() {
        due("some", some().part(NONE) > 0 ? 1 : 0, 1);
        due("the ring", ring().part(NONE), 16);
        due("one of one", oneLook(1, 0).part(NONE), 1);
    }

    static void partPastTheRowIsNone() {
        for (int i : new int[] {4, 5, 23, 24, 25, 1000, MOST}) {
            refused(Edges::some, "part(" + i + ")", x -> x.part(i), NONE);
        }
        // 0; then 2 and 5 as the least that can stand; 15 is what is left: not 0, 3, 5, 14, of which it was mixed.
        due("the last", some().part(3), 15);
    }

    static void partOfNoRowIsNone() {
        for (int i : new int[] {0, 1, 2, 23, MOST}) {
            refused(Edges::ring, "part(" + i + ")", x -> x.part(i), NONE);
        }
    }

    static void partNeedsNoPartedAhead() {
        due("part(0) at once", oneLook(0, 2).part(0), 1);
        due("part(NONE) at once", oneLook(0, 2).part(NONE), 3);
        LooksTogether x = oneLook(0, 2);
        due("parted", x.parted(), 1);
        due("part(NONE) then", x.part(NONE), 3);
        due("part(NONE) once more: not of two searches", x.part(NONE), 3);
    }

    // ---- "a row of HIDDEN, the sum T many, none less than the one ahead"; "The first such row by numbers"

    static void theSameHiddenMayStandTwice() {
        LooksTogether x = with(2, 3);
        weigh(x, 0, 0, 0, 3, 0);
        due("parted", x.parted(), 1);
        for (int i = 0; i < 3; i++) {
            due("part(" + i + ")", x.part(i), 2);
        }
        due("0, 1, 2; 2; 2", x.part(NONE), 5);
    }

    static void theFirstOfTwoRows() {
        LooksTogether x = with(2, 1, 2);
        weigh(x, 0, 1, 1);
        weigh(x, 1, 1, 1);
        due("0 and 3, not 1 and 2", x.part(0), 0);
        due("0 and 3, not 1 and 2", x.part(1), 3);
        due("0; 0, 1, 2, 3", x.part(NONE), 5);
    }

    static void eachJointAsOftenAsItsWeightTells() {
        LooksTogether x = with(4, EIGHT_SETS);
        x.mix(0x9669);
        int[][] had = new int[8][8];
        int ahead = 0;
        for (int i = 0; i < 8; i++) {
            int h = x.part(i);
            due("none less than the one ahead", h >= ahead ? 1 : 0, 1);
            ahead = Math.max(h, 0);
            for (int c = 0; c < 8; c++) {
                had[c][x.joint(c, ahead)]++;
            }
        }
        due("no ninth", x.part(8), NONE);
        for (int c = 0; c < 8; c++) {
            for (int j = 0; j < (c < 4 ? 8 : 4); j++) {
                due("WEIGHT " + c + " " + j, x.weight(c, j, 0), had[c][j]);
            }
        }
    }

    // ---- "back, where none is left; each HIDDEN that is tried at a place counts, whether it can stand there or not"

    static void backWhereNoneIsLeft() {
        LooksTogether x = with(3, 3, 5, 6);
        weigh(x, 0, 1, 1, 1, 0);
        weigh(x, 1, 1, 1, 1, 0);
        weigh(x, 2, 1, 1, 1, 0);
        due("parted", x.parted(), 1);
        due("0 was first, and had to go", x.part(0), 1);
        due("then", x.part(1), 2);
        due("then", x.part(2), 4);
        due("0; 0 to 7; 1; 1, 2; 2, 3, 4", x.part(NONE), 1 + 8 + 1 + 2 + 3);
    }

    static void backToTheEndWithoutARow() {
        LooksTogether x = with(3, 3, 5, 6);
        weigh(x, 0, 1, 0, 0, 2);
        weigh(x, 1, 1, 0, 0, 2);
        weigh(x, 2, 0, 1, 1, 1);
        due("agrees", x.agrees(), 1);
        due("7 alone can stand", x.parted(), 0);
        due("0 to 7; 7; no more", x.part(NONE), 8 + 1);
    }

    static void aPlaceIsTriedFromTheOneAheadOn() {
        LooksTogether x = with(3, 3, 5, 6);
        weigh(x, 0, 0, 1, 1, 1);
        weigh(x, 1, 0, 1, 1, 1);
        weigh(x, 2, 0, 1, 1, 1);
        due("3, 5, 6", x.parted(), 1);
        due("0, 1, 2, 3; 3, 4, 5; 5, 6", x.part(NONE), 4 + 3 + 2);
    }

    static void theCountIsOfOneSearch() {
        LooksTogether x = oneLook(0, 2);
        due("3", x.part(NONE), 3);
        x.weight(0, 1, 1);
        due("2", x.part(NONE), 2);
        x.weight(0, 1, 2);
        due("3 again", x.part(NONE), 3);
        x.stake(0, 1, 9);
        x.parity(0, 1);
        due("STAKES and PARITIES are not asked", x.part(NONE), 3);
    }

    static void theSearchIsOfTheTableAsItIsNow() {
        LooksTogether x = oneLook(1, 0);
        due("at first", x.part(0), 0);
        x.mix(2);
        due("mixed", x.part(0), 1);
        x.mix(1);
        x.weight(0, 0, 2);
        due("mixed and weighed", x.part(1), 0);
        x.put(2);
        x.weight(1, 1, 2);
        due("one SET more", x.part(1), 2);
        x.drop();
        x.weight(0, 1, 1);
        due("one SET less, and weighed", x.part(2), 1);
        fill(x, 0, 0, 0, 2);
        x.draw(0, 0, 0, 0, 0);
        due("drawn", x.part(0), 1);
        due("drawn", x.part(2), NONE);
        x.looks(6);
        x.put(32);
        x.weight(0, 1, 2);
        due("other LOOKS", x.part(1), 32);
        due("0 to 32; 32", x.part(NONE), 33 + 1);
    }

    // ---- "SPENT, when a 20001st would be tried"

    static void the20000thMayFindTheRow() {
        LooksTogether x = foundWithThe20000th();
        due("parted", x.parted(), 1);
        due("tried", x.part(NONE), 20000);
        due("the first", x.part(0) >= 0 ? 1 : 0, 1);
        due("the last", x.part(16) >= x.part(15) ? 1 : 0, 1);
        due("no 18th", x.part(17), NONE);
    }

    static void the20000thMayEndTheSearch() {
        LooksTogether x = endedWithThe20000th();
        due("parted", x.parted(), 0);
        due("tried", x.part(NONE), 20000);
        due("no row", x.part(0), NONE);
    }

    static void the20001stIsSpentThoughItWouldFindTheRow() {
        refused(PartingEdgesTest::foundWithThe20001st, "parted()", LooksTogether::parted, SPENT);
        due("tried", foundWithThe20001st().part(NONE), 20000);
    }

    static void the20001stIsSpentThoughItWouldEndTheSearch() {
        refused(PartingEdgesTest::endedWithThe20001st, "parted()", LooksTogether::parted, SPENT);
        due("tried", endedWithThe20001st().part(NONE), 20000);
    }

    // ---- promise 19: "STATE likewise; else, but for i NONE: SPENT; NONE: there is none such"

    static void partOfASpentSearchIsSpent() {
        for (int i : new int[] {0, 1, 11, 12, 24, MOST}) {
            refused(PartingEdgesTest::foundWithThe20001st, "part(" + i + ")", x -> x.part(i), SPENT);
        }
        due("NONE alone is answered", foundWithThe20001st().part(NONE), 20000);
    }

    static void partIsBadAheadOfSpent() {
        for (int i : BELOW_ZERO) {
            refused(PartingEdgesTest::foundWithThe20001st, "part(" + i + ")", x -> x.part(i), BAD);
        }
    }

    static void partIsStateAheadOfSpent() {
        LooksTogether x = foundWithThe20001st();
        due("parted", x.parted(), SPENT);
        int was = x.weight(0, 0, 9);
        due("it does not AGREE", x.part(0), STATE);
        due("it does not AGREE", x.part(NONE), STATE);
        due("it does not AGREE", x.parted(), STATE);
        x.weight(0, 0, was);
        due("as it was", x.part(0), SPENT);
    }

    static void aSearchAfterASpentOneBeginsAnew() {
        LooksTogether x = foundWithThe20001st();
        due("parted", x.parted(), SPENT);
        for (int c = 0; c < 4; c++) {
            x.drop();
        }
        due("one SET is left", x.parted(), 1);
        due("its first", x.part(0), 0);
        // LOOKS 1 and 3: 0, 0; 0, 1, 2 three times; 2, 3 .. 8 two times; 8, 9, 10 five times.
        due("tried", x.part(NONE), 2 + (2 + 1) + 2 + (6 + 1) + 1 + (2 + 1) + 4);
        x.looks(2);
        x.put(1);
        x.weight(0, 0, 1);
        due("another TABLE", x.part(NONE), 1);
    }
}
