import java.util.function.Supplier;

/** Boundary cases of promises 1 to 9: a new object, looks, SETS, WEIGHTS, STAKES, PARITIES, JOINTS. */
public final class SetEdgesTest extends Edges {
    private static final int[] FAR = {-1, LEAST, LEAST + 1, MOST, MOST - 1, 1 << 16, 1 << 30};

    public static void main(String[] args) throws ReflectiveOperationException {
        run(SetEdgesTest.class);
    }

    // ---- the terms: "An object is used for at most 512 calls"; "what is refused changes nothing"

    static void the512thCallIsAnsweredStill() {
        LooksTogether x = new LooksTogether();
        x.put(1);
        for (int call = 2; call <= 511; call++) {
            due("call " + call, x.weight(0, 0, call), call == 2 ? 0 : call - 1);
        }
        due("call 512", x.told(0, 2), 511);
    }

    static void the512thCallOfSearches() {
        LooksTogether x = ring();
        for (int call = 22; call < 512; call += 2) {
            x.weight(0, 0, 1);
            due("call " + (call + 1), x.parted(), 0);
        }
        due("call 512", x.part(NONE), 16);
    }

    static void askingChangesNothing() {
        for (Supplier<LooksTogether> made : ALL) {
            LooksTogether x = made.get();
            x.told(0, 2);
            x.joint(0, 3);
            x.agrees();
            x.quarrel();
            x.possible(0);
            x.lost(1);
            x.bound();
            x.best();
            x.worth();
            x.beyond();
            x.parted();
            x.part(0);
            x.part(NONE);
            x.fulfil();
            x.proof();
            x.square(0);
            x.colours(3);
            x.count(3);
            alike("asking", x, made.get());
        }
    }

    // ---- promise 1: "n is 4; no SETS, RAYS; SHEETS of nothing"

    static void aNewObjectHasFourLooks() {
        LooksTogether x = new LooksTogether();
        due("n", x.count(0), 4);
        due("LOOK 4 there is not", x.put(16), BAD);
        due("LOOK 3 there is", x.put(8), 0);
        due("the last HIDDEN", x.joint(0, 15), 1);
        due("one more there is not", x.joint(0, 16), BAD);
        due("what n was", x.looks(2), 4);
    }

    static void aNewObjectHasNoSets() {
        LooksTogether x = new LooksTogether();
        due("SETS", x.count(1), 0);
        due("told", x.told(0, 0), BAD);
        due("weight", x.weight(0, 0, 0), BAD);
        due("stake", x.stake(0, 0, 0), BAD_STAKE);
        due("parity", x.parity(0, 0), BAD);
        due("joint", x.joint(0, 0), BAD);
        due("drop", x.drop(), NONE);
        due("JOINTS", x.count(3), 0);
    }

    static void aNewObjectHasNoRays() {
        LooksTogether x = new LooksTogether();
        due("RAYS", x.count(2), 0);
        due("square", x.square(0), BAD);
        due("cut", x.cut(), NONE);
    }

    static void aNewObjectHasSheetsOfNothing() {
        LooksTogether x = with(4, 1);
        for (int k = 0; k < 4; k++) {
            due("lay of " + k, x.lay(k, 0, 0), NULL);
            for (int lane = 0; lane < 3; lane++) {
                due("draw of " + k, x.draw(0, 0, k, lane, 0), NULL);
            }
        }
        due("CELLS of SHEET 0", x.count(4), NONE);
    }

    static void objectsAreOfTheirOwn() {
        LooksTogether x = some();
        LooksTogether other = full();
        other.looks(6);
        other.cut();
        other.sheet(1, 0, 64);
        alike("another object", x, some());
    }

    // ---- promise 2: "n becomes another one; all SETS go: what it was. BAD."

    static void looksOfOneIsTheLeast() {
        LooksTogether x = new LooksTogether();
        due("looks(1)", x.looks(1), 4);
        due("n", x.count(0), 1);
        due("LOOK 1 there is not", x.put(2), BAD);
        due("LOOK 0 there is", x.put(1), 0);
        due("HIDDEN 1", x.joint(0, 1), 1);
        due("HIDDEN 2 there is not", x.joint(0, 2), BAD);
    }

    static void looksOfSixIsTheMost() {
        LooksTogether x = new LooksTogether();
        due("looks(6)", x.looks(6), 4);
        due("n", x.count(0), 6);
        due("LOOK 6 there is not", x.put(64), BAD);
        due("LOOK 5 there is", x.put(32), 0);
        due("HIDDEN 63", x.joint(0, 63), 1);
        due("HIDDEN 64 there is not", x.joint(0, 64), BAD);
    }

    static void looksOfZeroIsBad() {
        refused(Edges::some, "looks(0)", x -> x.looks(0), BAD);
    }

    static void looksOfSevenIsBad() {
        refused(Edges::full, "looks(7)", x -> x.looks(7), BAD);
    }

    static void looksFarOffIsBad() {
        for (int n : FAR) {
            refused(Edges::some, "looks(" + n + ")", x -> x.looks(n), BAD);
        }
    }

    static void looksTellsWhatItWas() {
        LooksTogether x = new LooksTogether();
        int was = 4;
        for (int n : new int[] {1, 2, 3, 4, 5, 6, 1, 6}) {
            due("looks(" + n + ")", x.looks(n), was);
            was = n;
        }
        due("refused", x.looks(7), BAD);
        due("after one that was refused", x.looks(5), 6);
    }

    static void looksTakesAllSets() {
        LooksTogether x = full();
        due("looks(3)", x.looks(3), 4);
        due("SETS", x.count(1), 0);
        due("told", x.told(0, 0), BAD);
        due("agrees", x.agrees(), STATE);
        due("drop", x.drop(), NONE);
        due("numbers from 0 on", x.put(7), 0);
        dueNewSet(x, 0, 8);
    }

    static void looksOfTheSameNumberTakesAllSetsToo() {
        LooksTogether x = full();
        due("looks(4)", x.looks(4), 4);
        due("SETS", x.count(1), 0);
        due("put(7)", x.put(7), 0);
        dueNewSet(x, 0, 8);
    }

    static void looksLeavesRaysAndSheets() {
        LooksTogether x = some();
        x.looks(4);
        LooksTogether other = some();
        for (int c = 2; c >= 0; c--) {
            due("drop of the other", other.drop(), c);
        }
        alike("looks, and drop of all", x, other);
    }

    /** WEIGHTS 0, STAKES 0, no PARITY at first, whatever was at its place. */
    private static void dueNewSet(LooksTogether x, int c, int joints) {
        due("sum of WEIGHTS", x.told(c, 2), 0);
        due("PARITY", x.told(c, 3), NONE);
        for (int j = 0; j < joints; j++) {
            due("WEIGHT " + j, x.weight(c, j, 0), 0);
            due("STAKE " + j, x.stake(c, j, 0), 0);
        }
    }

    // ---- promise 3: "A SET of LOOKS: its number. BAD; STATE: it is there; FULL."

    static void putOfNoLookIsBad() {
        refused(Edges::some, "put(0)", x -> x.put(0), BAD);
        refused(() -> with(1), "put(0)", x -> x.put(0), BAD);
    }

    static void putOfOneToThreeLooks() {
        LooksTogether x = with(6);
        due("the first", x.put(1), 0);
        due("the last", x.put(32), 1);
        due("two", x.put(33), 2);
        due("the first three", x.put(7), 3);
        due("the last three", x.put(56), 4);
        for (int c = 0; c < 5; c++) {
            due("LOOKS of " + c, x.told(c, 1), new int[] {1, 1, 2, 3, 3}[c]);
        }
    }

    static void putOfFourLooksIsBad() {
        refused(Edges::some, "put(15)", x -> x.put(15), BAD);
        for (int some : new int[] {15, 60, 51, 45, 31, 63}) {
            refused(() -> with(6, 7), "put(" + some + ")", x -> x.put(some), BAD);
        }
    }

    static void putOfALookThatThereIsNotIsBad() {
        for (int n = 1; n <= 6; n++) {
            int looks = n;
            refused(() -> with(looks, 1), "put of LOOK " + n, x -> x.put(1 << looks), BAD);
            refused(() -> with(looks, 1), "put of LOOKS 0, " + n, x -> x.put(1 + (1 << looks)), BAD);
            due("the last that there is", with(n).put(1 << n - 1), 0);
        }
    }

    static void putFarOffIsBad() {
        for (int some : FAR) {
            refused(Edges::some, "put(" + some + ")", x -> x.put(some), BAD);
        }
    }

    static void putOfOneThatIsThereIsState() {
        for (int some : new int[] {3, 6, 8}) {
            refused(Edges::some, "put(" + some + ")", x -> x.put(some), STATE);
        }
    }

    static void putOfOneThatIsGoneIsNot() {
        LooksTogether x = some();
        x.drop();
        due("put(8)", x.put(8), 2);
        dueNewSet(x, 2, 2);
        x.looks(4);
        due("put(3)", x.put(3), 0);
    }

    static void putOfTheEighthIsTheLast() {
        LooksTogether x = with(4, 7, 11, 13, 14, 3, 5, 6);
        due("the eighth", x.put(9), 7);
        due("the ninth", x.put(10), FULL);
    }

    static void putOfTheNinthIsFull() {
        for (int some : new int[] {1, 2, 4, 8, 10, 12}) {
            refused(Edges::full, "put(" + some + ")", x -> x.put(some), FULL);
        }
    }

    static void putIsStateAheadOfFull() {
        for (int some : EIGHT_SETS) {
            refused(Edges::full, "put(" + some + ")", x -> x.put(some), STATE);
        }
    }

    static void putIsBadAheadOfFull() {
        for (int some : new int[] {0, 15, 16, -1, LEAST}) {
            refused(Edges::full, "put(" + some + ")", x -> x.put(some), BAD);
        }
    }

    static void putAfterFullAndDrop() {
        LooksTogether x = full();
        due("drop", x.drop(), 7);
        due("put(10)", x.put(10), 7);
        dueNewSet(x, 7, 4);
        due("full again", x.put(12), FULL);
    }

    // ---- promise 4: "The latest SET goes: its number. NONE."

    static void dropOfNoneIsNone() {
        refused(LooksTogether::new, "drop()", LooksTogether::drop, NONE);
        LooksTogether x = some();
        x.looks(2);
        due("after looks", x.drop(), NONE);
    }

    static void dropFromEightToNone() {
        LooksTogether x = full();
        for (int c = 7; c >= 0; c--) {
            due("drop", x.drop(), c);
            due("SETS", x.count(1), c);
            due("told", x.told(c, 0), BAD);
        }
        due("none is left", x.drop(), NONE);
        due("none is left", x.agrees(), STATE);
    }

    static void dropLeavesTheOthers() {
        LooksTogether x = some();
        x.put(12);
        weigh(x, 3, 1, 2, 3, 4);
        bet(x, 3, 1, 2, 3, 4);
        x.parity(3, 1);
        due("drop", x.drop(), 3);
        alike("one SET more, and drop", x, some());
    }

    static void whatWasOfADroppedSetIsNotOfTheNext() {
        LooksTogether x = with(3, 1, 7);
        weigh(x, 1, 1, 2, 3, 4, 5, 6, 7, 8);
        bet(x, 1, 1, 2, 3, 4, 5, 6, 7, 8);
        x.parity(1, 0);
        x.drop();
        due("of fewer LOOKS", x.put(2), 1);
        dueNewSet(x, 1, 2);
        due("worth", x.worth(), 0);
        x.drop();
        due("of as many", x.put(7), 1);
        dueNewSet(x, 1, 8);
    }

    // ---- promise 5: "Of a SET: 0 its LOOKS (bits), 1 how many, 2 the sum of its WEIGHTS, 3 its PARITY (NONE). BAD."

    static void toldOfWhatBelowZeroOrAboveThreeIsBad() {
        due("the least", some().told(0, 0), 3);
        due("the most", some().told(0, 3), 1);
        for (int what : new int[] {-1, 4, 5, LEAST, MOST}) {
            refused(Edges::some, "told(0, " + what + ")", x -> x.told(0, what), BAD);
        }
    }

    static void toldOfASetThatThereIsNotIsBad() {
        due("the last", some().told(2, 0), 8);
        for (int c : new int[] {-1, 3, 7, 8, LEAST, MOST}) {
            for (int what = 0; what < 4; what++) {
                int asked = what;
                refused(Edges::some, "told(" + c + ", " + what + ")", x -> x.told(c, asked), BAD);
            }
        }
        due("the eighth", full().told(7, 0), 9);
        due("the ninth", full().told(8, 0), BAD);
    }

    static void toldOfTheSumOfWeights() {
        LooksTogether x = with(3, 7);
        due("the least", x.told(0, 2), 0);
        weigh(x, 0, 1000, 1000, 1000, 1000, 1000, 1000, 1000, 1000);
        due("the most", x.told(0, 2), 8000);
    }

    static void toldOfNoParityIsNone() {
        LooksTogether x = with(3, 7);
        due("at first", x.told(0, 3), NONE);
        x.parity(0, 0);
        due("0", x.told(0, 3), 0);
        x.parity(0, 1);
        due("1", x.told(0, 3), 1);
        x.parity(0, NONE);
        due("none again", x.told(0, 3), NONE);
    }

    // ---- promise 6: "A WEIGHT becomes v: what it was. BAD."; "0 to 1000; 0 at first"

    static void weightOfZeroIsTheLeast() {
        LooksTogether x = with(2, 3);
        due("0 at first", x.weight(0, 0, 7), 0);
        due("weight(0, 0, 0)", x.weight(0, 0, 0), 7);
        due("what it was", x.weight(0, 0, 1), 0);
        refused(Edges::some, "weight(0, 0, -1)", y -> y.weight(0, 0, -1), BAD);
    }

    static void weightOf1000IsTheMost() {
        LooksTogether x = with(2, 3);
        due("weight(0, 3, 1000)", x.weight(0, 3, 1000), 0);
        due("what it was", x.weight(0, 3, 999), 1000);
        refused(Edges::some, "weight(0, 0, 1001)", y -> y.weight(0, 0, 1001), BAD);
    }

    static void weightFarOffIsBad() {
        for (int v : FAR) {
            refused(Edges::some, "weight(2, 1, " + v + ")", x -> x.weight(2, 1, v), BAD);
        }
    }

    static void weightOfAJointThatThereIsNotIsBad() {
        int[] joints = {4, 4, 2};
        for (int c = 0; c < 3; c++) {
            int set = c;
            due("the last of " + c, some().weight(c, joints[c] - 1, 5) >= 0 ? 1 : 0, 1);
            for (int j : new int[] {-1, joints[c], joints[c] + 1, 8, LEAST, MOST}) {
                refused(Edges::some, "weight(" + c + ", " + j + ", 5)", x -> x.weight(set, j, 5), BAD);
            }
        }
        due("the eighth of three LOOKS", with(3, 7).weight(0, 7, 5), 0);
        refused(() -> with(3, 7, 1), "weight(0, 8, 5)", x -> x.weight(0, 8, 5), BAD);
    }

    static void weightOfASetThatThereIsNotIsBad() {
        for (int c : new int[] {-1, 3, 8, LEAST, MOST}) {
            refused(Edges::some, "weight(" + c + ", 0, 5)", x -> x.weight(c, 0, 5), BAD);
        }
        refused(LooksTogether::new, "no SETS", x -> x.weight(0, 0, 5), BAD);
        due("the eighth", full().weight(7, 3, 5) >= 0 ? 1 : 0, 1);
        refused(Edges::full, "the ninth", x -> x.weight(8, 0, 5), BAD);
    }

    static void weightChangesThatOneAlone() {
        LooksTogether x = full();
        due("weight(3, 5, 999)", x.weight(3, 5, 999), full().weight(3, 5, 0));
        for (int c = 0; c < 8; c++) {
            int sum = full().told(c, 2);
            due("sum of " + c, x.told(c, 2), c == 3 ? sum + 999 - full().weight(3, 5, 0) : sum);
        }
        x.weight(3, 5, full().weight(3, 5, 0));
        alike("there and back", x, full());
    }

    // ---- promise 7: "A STAKE becomes v: what it was. BAD -1000."; "-100 to 100; 0 at first"

    static void stakeOfMinus100IsTheLeast() {
        LooksTogether x = with(2, 3);
        due("0 at first", x.stake(0, 0, -100), 0);
        due("what it was", x.stake(0, 0, -99), -100);
        refused(Edges::some, "stake(0, 0, -101)", y -> y.stake(0, 0, -101), BAD_STAKE);
    }

    static void stakeOf100IsTheMost() {
        LooksTogether x = with(2, 3);
        due("0 at first", x.stake(0, 3, 100), 0);
        due("what it was", x.stake(0, 3, 99), 100);
        refused(Edges::some, "stake(0, 0, 101)", y -> y.stake(0, 0, 101), BAD_STAKE);
    }

    static void stakeFarOffIsBad() {
        for (int v : new int[] {-1000, 1000, LEAST, LEAST + 100, MOST, 1 << 16}) {
            refused(Edges::some, "stake(2, 1, " + v + ")", x -> x.stake(2, 1, v), BAD_STAKE);
        }
    }

    /** BAD would be -1 elsewhere: as a STAKE it is what was. */
    static void stakesThatLookLikeRefusals() {
        LooksTogether x = with(2, 3);
        int was = 0;
        for (int v : new int[] {BAD, STATE, FULL, NONE, SPENT}) {
            due("stake(0, 0, " + v + ")", x.stake(0, 0, v), was);
            was = v;
        }
        due("the last", x.stake(0, 0, 0), SPENT);
    }

    static void stakeOfAJointThatThereIsNotIsBad() {
        int[] joints = {4, 4, 2};
        for (int c = 0; c < 3; c++) {
            int set = c;
            due("the last of " + c, some().stake(c, joints[c] - 1, 5) != BAD_STAKE ? 1 : 0, 1);
            for (int j : new int[] {-1, joints[c], joints[c] + 1, 8, LEAST, MOST}) {
                refused(Edges::some, "stake(" + c + ", " + j + ", 5)", x -> x.stake(set, j, 5), BAD_STAKE);
            }
        }
        due("the eighth of three LOOKS", with(3, 7).stake(0, 7, 5), 0);
        refused(() -> with(3, 7, 1), "stake(0, 8, 5)", x -> x.stake(0, 8, 5), BAD_STAKE);
    }

    static void stakeOfASetThatThereIsNotIsBad() {
        for (int c : new int[] {-1, 3, 8, LEAST, MOST}) {
            refused(Edges::some, "stake(" + c + ", 0, 5)", x -> x.stake(c, 0, 5), BAD_STAKE);
        }
        refused(LooksTogether::new, "no SETS", x -> x.stake(0, 0, 5), BAD_STAKE);
        due("the eighth", full().stake(7, 3, 5), -4);
        refused(Edges::full, "the ninth", x -> x.stake(8, 0, 5), BAD_STAKE);
    }

    static void stakeChangesThatOneAlone() {
        LooksTogether x = full();
        due("stake(3, 5, 99)", x.stake(3, 5, 99), 0);
        for (int c = 0; c < 8; c++) {
            due("sum of WEIGHTS of " + c, x.told(c, 2), full().told(c, 2));
        }
        due("back", x.stake(3, 5, 0), 99);
        alike("there and back", x, full());
    }

    // ---- promise 8: "A PARITY becomes v (NONE: none): what it was. BAD."; "(0, 1; none at first)"

    static void parityOfZeroOneAndNone() {
        LooksTogether x = with(2, 3);
        due("none at first", x.parity(0, NONE), NONE);
        due("none was", x.parity(0, 0), NONE);
        due("0 was", x.parity(0, 1), 0);
        due("1 was", x.parity(0, 0), 1);
        due("0 was", x.parity(0, NONE), 0);
        due("none was", x.parity(0, 1), NONE);
    }

    static void parityOfAnotherNumberIsBad() {
        for (int v : new int[] {-1, 2, 3, -2, -3, -5, -6, LEAST, MOST}) {
            for (int c = 0; c < 3; c++) {
                int set = c;
                refused(Edges::some, "parity(" + c + ", " + v + ")", x -> x.parity(set, v), BAD);
            }
        }
    }

    static void parityOfASetThatThereIsNotIsBad() {
        for (int c : new int[] {-1, 3, 8, LEAST, MOST}) {
            for (int v : new int[] {0, 1, NONE}) {
                refused(Edges::some, "parity(" + c + ", " + v + ")", x -> x.parity(c, v), BAD);
            }
        }
        refused(LooksTogether::new, "no SETS", x -> x.parity(0, 0), BAD);
        due("the eighth", full().parity(7, 0), 1);
        refused(Edges::full, "the ninth", x -> x.parity(8, 0), BAD);
    }

    static void parityChangesThatOneAlone() {
        LooksTogether x = full();
        due("parity(3, 1)", x.parity(3, 1), NONE);
        for (int c = 0; c < 8; c++) {
            due("PARITY of " + c, x.told(c, 3), c == 3 ? 1 : full().told(c, 3));
        }
        due("back", x.parity(3, NONE), 1);
        alike("there and back", x, full());
    }

    // ---- promise 9: "The JOINT of a SET by HIDDEN h. BAD."; "its number: the sum of 2 to the j"

    static void jointByTheFirstAndTheLastHidden() {
        for (int n = 1; n <= 6; n++) {
            int many = Math.min(n, 3);
            LooksTogether x = with(n, (1 << many) - 1 << n - many);
            due("HIDDEN 0 of n " + n, x.joint(0, 0), 0);
            due("the last of n " + n, x.joint(0, (1 << n) - 1), (1 << many) - 1);
            due("one below 0 of n " + n, x.joint(0, -1), BAD);
            due("one too many of n " + n, x.joint(0, 1 << n), BAD);
        }
    }

    static void jointByHiddenThatThereIsNotIsBad() {
        for (int h : new int[] {-1, 16, 17, 63, 64, LEAST, MOST}) {
            refused(Edges::some, "joint(0, " + h + ")", x -> x.joint(0, h), BAD);
        }
    }

    static void jointOfASetThatThereIsNotIsBad() {
        for (int c : new int[] {-1, 3, 8, LEAST, MOST}) {
            refused(Edges::some, "joint(" + c + ", 0)", x -> x.joint(c, 0), BAD);
        }
        refused(LooksTogether::new, "no SETS", x -> x.joint(0, 0), BAD);
        due("the eighth", full().joint(7, 8), 2);
        refused(Edges::full, "the ninth", x -> x.joint(8, 0), BAD);
    }

    static void jointCountsTheLooksOfTheSetInOrder() {
        LooksTogether x = with(6, 1 + 8 + 32, 4 + 16, 2);
        for (int h = 0; h < 64; h++) {
            due("LOOKS 0, 3, 5 by " + h, x.joint(0, h), h % 2 + h / 8 % 2 * 2 + h / 32 * 4);
            due("LOOKS 2, 4 by " + h, x.joint(1, h), h / 4 % 2 + h / 16 % 2 * 2);
            due("LOOK 1 by " + h, x.joint(2, h), h / 2 % 2);
        }
    }
}
