/** Boundary cases of promises 23 to 26: RAYS and their COLOURS. */
public final class RayEdgesTest extends Edges {
    public static void main(String[] args) throws ReflectiveOperationException {
        run(RayEdgesTest.class);
    }

    private static LooksTogether withRays(int[]... rays) {
        LooksTogether x = new LooksTogether();
        for (int[] r : rays) {
            x.ray(r[0], r[1], r[2]);
        }
        return x;
    }

    private static int ray(LooksTogether x, int... r) {
        return x.ray(r[0], r[1], r[2]);
    }

    private static String name(int... r) {
        return "ray(" + r[0] + ", " + r[1] + ", " + r[2] + ")";
    }

    private static void dueColours(String of, LooksTogether x, int... want) {
        for (int what = 0; what < 5; what++) {
            due("colours(" + what + ") of " + of, x.colours(what), want[what]);
        }
    }

    // ---- promise 23: "A RAY: its number. BAD; STATE: it is a multiple of one that is there; FULL."

    static void rayOfZerosIsBad() {
        refused(LooksTogether::new, "the first", x -> x.ray(0, 0, 0), BAD);
        refused(Edges::some, "the fifth", x -> x.ray(0, 0, 0), BAD);
    }

    static void rayWithTwoZerosIsNot() {
        LooksTogether x = new LooksTogether();
        due("x alone", x.ray(1, 0, 0), 0);
        due("y alone", x.ray(0, 1, 0), 1);
        due("z alone", x.ray(0, 0, 1), 2);
    }

    static void rayOfMinusFiveToFive() {
        for (int at = 0; at < 3; at++) {
            for (int v : new int[] {-5, 5}) {
                int[] r = {1, 2, 3};
                r[at] = v;
                due(name(r), ray(new LooksTogether(), r), 0);
            }
        }
        due(name(5, 5, 5), new LooksTogether().ray(5, 5, 5), 0);
        due(name(-5, -5, -5), new LooksTogether().ray(-5, -5, -5), 0);
    }

    static void rayBelowMinusFiveOrAboveFiveIsBad() {
        for (int at = 0; at < 3; at++) {
            for (int v : new int[] {-6, 6, -7, 100, LEAST, LEAST + 1, MOST, 1 << 16, 1 << 30}) {
                int[] r = {1, 2, 3};
                r[at] = v;
                refused(Edges::some, name(r), x -> ray(x, r), BAD);
                int[] alone = {0, 0, 0};
                alone[at] = v;
                refused(LooksTogether::new, name(alone), x -> ray(x, alone), BAD);
            }
        }
    }

    static void rayThatIsThereIsState() {
        for (int r = 0; r < 4; r++) {
            int[] one = TWELVE_RAYS[r];
            refused(Edges::some, name(one), x -> ray(x, one), STATE);
        }
    }

    static void rayThatIsAMultipleIsState() {
        int[][] multiples = {{-1, 0, 0}, {5, 0, 0}, {0, -2, 0}, {0, 4, 0}, {0, 0, 5}, {-1, -1, 0}, {5, 5, 0}};
        for (int[] r : multiples) {
            refused(Edges::some, name(r), x -> ray(x, r), STATE);
        }
    }

    static void rayThatOneThereIsAMultipleOfIsState() {
        for (int[] r : new int[][] {{0, 1, 0}, {0, -1, 0}, {0, 0, 1}, {0, 3, 0}, {0, 0, 4}}) {
            refused(Edges::some, name(r), x -> ray(x, r), STATE);
        }
        due("half of (2, -4, 2)", withRays(new int[] {2, -4, 2}).ray(1, -2, 1), STATE);
        due("less half of (2, -4, 2)", withRays(new int[] {2, -4, 2}).ray(-1, 2, -1), STATE);
    }

    static void rayThatIsAMultipleInTwoNumbersAloneIsNot() {
        int[][] others = {{1, 2, 4}, {1, 3, 3}, {2, 2, 3}, {2, 4, 5}, {2, 4, 0}, {0, 2, 3}, {1, 0, 3}, {-1, 2, 3},
            {1, -2, 3}, {1, 2, -3}};
        for (int[] r : others) {
            due(name(r), ray(withRays(new int[] {1, 2, 3}), r), 1);
        }
        due("zeros are no multiples of numbers", withRays(new int[] {1, 0, 0}).ray(0, 1, 0), 1);
        due("zeros are no multiples of numbers", withRays(new int[] {0, 0, 1}).ray(0, 1, 1), 1);
    }

    static void rayThatIsAMultipleOfOneThatIsGoneIsNot() {
        LooksTogether x = some();
        x.cut();
        due("(1, 1, 0) is gone", x.ray(2, 2, 0), 3);
        due("and there again", x.ray(1, 1, 0), STATE);
    }

    static void theTwelfthIsTheLast() {
        LooksTogether x = new LooksTogether();
        for (int r = 0; r < 12; r++) {
            due("RAY " + r, ray(x, TWELVE_RAYS[r]), r);
        }
        due("the thirteenth", x.ray(1, 3, 5), FULL);
        due("RAYS", x.count(2), 12);
    }

    static void theThirteenthIsFull() {
        for (int[] r : new int[][] {{1, 3, 5}, {5, 4, 3}, {-5, -5, 4}, {0, 1, -1}}) {
            refused(Edges::full, name(r), x -> ray(x, r), FULL);
        }
    }

    static void rayIsStateAheadOfFull() {
        for (int[] r : TWELVE_RAYS) {
            refused(Edges::full, name(r), x -> ray(x, r), STATE);
        }
        refused(Edges::full, name(-1, -2, -3), x -> x.ray(-1, -2, -3), STATE);
    }

    static void rayIsBadAheadOfFull() {
        for (int[] r : new int[][] {{0, 0, 0}, {6, 0, 0}, {0, -6, 0}, {1, 2, 6}}) {
            refused(Edges::full, name(r), x -> ray(x, r), BAD);
        }
    }

    /** (6, 0, 0) would be a multiple of (1, 0, 0). */
    static void rayIsBadAheadOfState() {
        refused(Edges::some, name(6, 0, 0), x -> x.ray(6, 0, 0), BAD);
        refused(Edges::some, name(-6, -6, 0), x -> x.ray(-6, -6, 0), BAD);
    }

    static void rayAfterFullAndCut() {
        LooksTogether x = full();
        due("cut", x.cut(), 11);
        due("another", x.ray(1, 3, 5), 11);
        due("full again", x.ray(3, -1, 4), FULL);
    }

    // ---- promise 24: "The latest RAY goes: its number. NONE."

    static void cutOfNoneIsNone() {
        refused(LooksTogether::new, "cut()", LooksTogether::cut, NONE);
    }

    static void cutFromTwelveToNone() {
        LooksTogether x = full();
        for (int r = 11; r >= 0; r--) {
            due("cut", x.cut(), r);
            due("RAYS", x.count(2), r);
            due("square", x.square(r), BAD);
        }
        due("none is left", x.cut(), NONE);
        dueColours("none", x, 0, 0, 1, 0, 0);
    }

    static void cutLeavesTheOthers() {
        LooksTogether x = some();
        due("SQUARE to three", x.ray(0, 0, 1), STATE);
        due("one more", x.ray(1, -1, 0), 4);
        due("SQUARE to the third and the fourth", x.square(4), 4 + 8);
        due("cut", x.cut(), 4);
        alike("one RAY more, and cut", x, some());
    }

    static void whatWasOfARayThatIsCutIsNotOfTheNext() {
        LooksTogether x = withRays(new int[] {1, 0, 0}, new int[] {0, 1, 0});
        due("SQUARE", x.square(0), 2);
        x.cut();
        due("cut", x.square(0), 0);
        x.ray(1, 1, 1);
        due("another, not SQUARE", x.square(0), 0);
        due("another, not SQUARE", x.square(1), 0);
        due("pairs", x.colours(0), 0);
    }

    // ---- promise 25: "The RAYS that are SQUARE to one (bits). BAD."

    static void squareOfARayThatThereIsNotIsBad() {
        for (int r : new int[] {-1, 4, 11, 12, 31, 32, LEAST, MOST}) {
            refused(Edges::some, "square(" + r + ")", x -> x.square(r), BAD);
        }
        refused(LooksTogether::new, "no RAYS", x -> x.square(0), BAD);
        refused(Edges::full, "the thirteenth", x -> x.square(12), BAD);
    }

    static void squareToNoneIsZero() {
        due("one RAY", withRays(new int[] {1, 2, 3}).square(0), 0);
        LooksTogether x = withRays(new int[] {1, 0, 0}, new int[] {1, 1, 0});
        due("two RAYS", x.square(0), 0);
        due("two RAYS", x.square(1), 0);
    }

    static void squareToAllButItself() {
        LooksTogether x = withRays(new int[] {0, 1, 0}, new int[] {0, 1, 5}, new int[] {0, 2, 5}, new int[] {0, 3, 5},
            new int[] {0, 4, 5}, new int[] {0, 5, 5}, new int[] {0, -1, 5}, new int[] {0, -2, 5}, new int[] {0, -3, 5},
            new int[] {0, -4, 5}, new int[] {0, -5, 5}, new int[] {1, 0, 0});
        due("the twelfth to eleven", x.square(11), 2047);
        for (int r = 0; r < 11; r++) {
            due("the twelfth alone, but for 5 and 10", x.square(r), r == 5 ? 2048 + 1024 : r == 10 ? 2048 + 32 : 2048);
        }
    }

    static void squareAtTheLargestNumbers() {
        LooksTogether x = withRays(new int[] {5, 5, 0}, new int[] {5, -5, 5}, new int[] {-5, 5, 5},
            new int[] {5, 5, 5});
        due("25 - 25", x.square(0), 2 + 4);
        due("-25 - 25 + 25 is not 0", x.square(1), 1);
        due("75 is not 0", x.square(3), 0);
    }

    // ---- promise 26: "0 pairs, 1 threes, 2 how many COLOURS, 3 the least (NONE), 4 the most RED ones in any. BAD."

    static void coloursOfAnotherWhatIsBad() {
        for (int what : new int[] {-1, 5, 6, NONE, LEAST, MOST}) {
            refused(Edges::some, "colours(" + what + ")", x -> x.colours(what), BAD);
            refused(LooksTogether::new, "colours(" + what + ") of none", x -> x.colours(what), BAD);
            refused(Edges::full, "colours(" + what + ") of twelve", x -> x.colours(what), BAD);
        }
    }

    static void coloursOfNoRays() {
        dueColours("none", new LooksTogether(), 0, 0, 1, 0, 0);
    }

    static void coloursOfOneRay() {
        dueColours("one", withRays(new int[] {-5, 5, 3}), 0, 0, 2, 0, 1);
    }

    static void noTwoSquareOnesAreBothRed() {
        dueColours("a pair", withRays(new int[] {1, 0, 0}, new int[] {0, 1, 0}), 1, 0, 3, 0, 1);
        dueColours("no pair", withRays(new int[] {1, 0, 0}, new int[] {1, 1, 0}), 0, 0, 4, 0, 2);
    }

    static void justOneOfThreeIsRed() {
        LooksTogether x = withRays(new int[] {1, 0, 0}, new int[] {0, 1, 0}, new int[] {0, 0, 1});
        dueColours("three", x, 3, 1, 3, 1, 1);
        x.cut();
        dueColours("two of them: it may be that none is RED", x, 1, 0, 3, 0, 1);
    }

    static void twoPairsAreNoThree() {
        LooksTogether x = withRays(new int[] {1, 0, 0}, new int[] {0, 1, 0}, new int[] {0, 1, 1});
        dueColours("the first in both", x, 2, 0, 5, 0, 2);
        LooksTogether y = withRays(new int[] {0, 1, 0}, new int[] {1, 0, 0}, new int[] {0, 1, 1});
        dueColours("the second in both", y, 2, 0, 5, 0, 2);
    }

    static void coloursOfTwelveWithNoPair() {
        LooksTogether x = new LooksTogether();
        for (int i = 0; i < 12; i++) {
            x.ray(1 + i % 3, 1 + i / 3, i % 3 == 2 ? 5 : 3);
        }
        due("RAYS", x.count(2), 12);
        dueColours("twelve", x, 0, 0, 4096, 0, 12);
    }

    static void coloursOfTwelveInFourThrees() {
        // No RAY of one three is SQUARE to one of another.
        LooksTogether x = withRays(new int[] {1, 0, 0}, new int[] {0, 1, 0}, new int[] {0, 0, 1},
            new int[] {1, 2, 2}, new int[] {2, 1, -2}, new int[] {2, -2, 1},
            new int[] {-1, 2, 2}, new int[] {2, -1, 2}, new int[] {2, 2, -1},
            new int[] {1, 2, -2}, new int[] {2, 1, 2}, new int[] {2, -2, -1});
        due("RAYS", x.count(2), 12);
        dueColours("four threes", x, 12, 4, 81, 1 + 8 + 64 + 512, 4);
    }

    static void theLeastIsTheLeastNumber() {
        LooksTogether x = withRays(new int[] {1, 1, 0}, new int[] {1, 0, 0}, new int[] {0, 1, 0}, new int[] {0, 0, 1});
        // 3 is SQUARE to 0, 1 and 2; one of 1, 2, 3 is RED: 1, 2 with or without 0, or 3 alone.
        dueColours("a three and one more", x, 4, 1, 5, 2, 2);
    }

    static void coloursFollowTheRays() {
        LooksTogether x = withRays(new int[] {1, 0, 0}, new int[] {0, 1, 0});
        due("two", x.colours(2), 3);
        x.ray(0, 0, 1);
        due("three", x.colours(2), 3);
        due("three", x.colours(3), 1);
        x.cut();
        due("two again", x.colours(3), 0);
        x.ray(0, 0, 0);
        due("refused", x.colours(3), 0);
    }
}
