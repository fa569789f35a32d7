/** Boundary cases of promises 10 to 17 and 20 to 22: what the TABLE tells, mix, PARITIES. */
public final class TableEdgesTest extends Edges {
    private static final int[] NOT_ZERO_OR_ONE = {-1, 2, NONE, LEAST, MOST};

    public static void main(String[] args) throws ReflectiveOperationException {
        run(TableEdgesTest.class);
    }

    /** Four ways to have no SETS. */
    private static LooksTogether withoutSets(int way) {
        LooksTogether x = way == 0 ? new LooksTogether() : way == 3 ? some() : with(3, 5);
        switch (way) {
            case 1: x.drop(); break;
            case 2: x.looks(3); break;
            case 3: x.looks(6); break;
            default:
        }
        return x;
    }

    /** Six SETS of one LOOK, then LOOKS 0 and 1, then 4 and 5: each of JOINT 0 once. */
    private static LooksTogether eightThatAgree() {
        LooksTogether x = with(6, 1, 2, 4, 8, 16, 32, 3, 48);
        for (int c = 0; c < 8; c++) {
            x.weight(c, 0, 1);
        }
        return x;
    }

    // ---- promise 10: "Whether the TABLE AGREES (1, 0). STATE: there are no SETS."

    static void agreesOfNoSetsIsState() {
        for (int way = 0; way < 4; way++) {
            int how = way;
            refused(() -> withoutSets(how), "agrees", LooksTogether::agrees, STATE);
        }
    }

    static void agreesOfOneSetWhateverItsWeights() {
        LooksTogether x = with(3, 7);
        due("0 alone", x.agrees(), 1);
        x.weight(0, 7, 1000);
        due("one", x.agrees(), 1);
        weigh(x, 0, 1000, 999, 0, 0, 1, 2, 3, 4);
        due("some", x.agrees(), 1);
    }

    static void agreesOfWeightsZeroAlone() {
        due("eight SETS", with(4, EIGHT_SETS).agrees(), 1);
    }

    static void agreesNotWhereTheSumsAreUnlikeByOne() {
        LooksTogether x = with(4, 3, 12);
        weigh(x, 0, 1000, 1000, 1000, 1000);
        weigh(x, 1, 1000, 1000, 1000, 999);
        due("no LOOK in both, unlike", x.agrees(), 0);
        x.weight(1, 3, 1000);
        due("no LOOK in both, alike", x.agrees(), 1);
        weigh(x, 1, 1000, 1000, 1000, 1000);
        weigh(x, 0, 1000, 1000, 1000, 999);
        due("the other is less", x.agrees(), 0);
    }

    static void agreesNotWhereTheSumsAreAlikeAndTheirPartsNot() {
        LooksTogether x = with(3, 3, 6);
        weigh(x, 0, 2, 1, 3, 4);
        weigh(x, 1, 1, 7, 2, 0);
        due("LOOK 1: 3 and 7 in both", x.agrees(), 1);
        weigh(x, 1, 2, 7, 0, 1);
        due("LOOK 1: 2 and 8 in the second", x.agrees(), 0);
        due("the sums are alike", x.told(0, 2) - x.told(1, 2), 0);
    }

    static void agreesNotWhereTwoLooksTogetherAreUnlike() {
        LooksTogether x = with(3, 7, 3);
        weigh(x, 0, 1, 0, 0, 1, 1, 0, 0, 1);
        weigh(x, 1, 2, 0, 0, 2);
        due("alike", x.agrees(), 1);
        weigh(x, 1, 1, 1, 1, 1);
        due("alike each, together not", x.agrees(), 0);
    }

    static void agreesNotWhereTheLastTwoOfEightAreUnlike() {
        LooksTogether x = eightThatAgree();
        due("all alike", x.agrees(), 1);
        weigh(x, 7, 0, 0, 1, 0);
        due("LOOK 5 unlike", x.agrees(), 0);
        weigh(x, 7, 2, 0, 0, 0);
        due("the sum unlike", x.agrees(), 0);
    }

    // ---- promise 11: "The first two SETS (8 c + d, c less than d) whose sums are unlike. STATE likewise; NONE"

    static void quarrelOfNoSetsIsState() {
        for (int way = 0; way < 4; way++) {
            int how = way;
            refused(() -> withoutSets(how), "quarrel", LooksTogether::quarrel, STATE);
        }
    }

    static void quarrelOfATableThatAgreesIsNone() {
        due("one SET", weigh(with(1, 1), 0, 3, 4).quarrel(), NONE);
        due("0 alone", with(4, EIGHT_SETS).quarrel(), NONE);
        due("eight SETS", eightThatAgree().quarrel(), NONE);
        refused(Edges::some, "three SETS", LooksTogether::quarrel, NONE);
    }

    static void quarrelOfTheFirstTwoIsOne() {
        due("SETS 0 and 1", quarrelling().quarrel(), 1);
        LooksTogether x = eightThatAgree();
        x.weight(1, 1, 1);
        due("SETS 0 and 1", x.quarrel(), 1);
    }

    static void quarrelOfTheLastTwoIs62() {
        LooksTogether x = with(6, 1, 2, 4, 8, 16, 3, 48, 32);
        for (int c = 0; c < 8; c++) {
            x.weight(c, 0, 1);
        }
        due("none", x.quarrel(), NONE);
        weigh(x, 7, 0, 1);
        due("SETS 6 and 7", x.quarrel(), 8 * 6 + 7);
    }

    static void quarrelIsOfTheLeastFirstSetThenOfTheLeastSecond() {
        LooksTogether x = eightThatAgree();
        weigh(x, 7, 0, 1, 0, 0);
        due("SETS 4 and 7", x.quarrel(), 8 * 4 + 7);
        weigh(x, 6, 0, 0, 1, 0);
        due("SETS 1 and 6 ahead", x.quarrel(), 8 + 6);
        weigh(x, 6, 0, 0, 0, 1);
        due("SETS 0 and 6 ahead", x.quarrel(), 6);
        weigh(x, 3, 1, 1);
        due("SETS 0 and 3 ahead", x.quarrel(), 3);
    }

    // ---- promise 12: "How many HIDDEN are POSSIBLE (what 0), the least one (1; NONE). BAD; STATE likewise."

    static void possibleOfAnotherWhatIsBad() {
        for (int what : NOT_ZERO_OR_ONE) {
            refused(Edges::some, "possible(" + what + ")", x -> x.possible(what), BAD);
        }
    }

    static void possibleOfNoSetsIsState() {
        for (int way = 0; way < 4; way++) {
            int how = way;
            refused(() -> withoutSets(how), "possible(0)", x -> x.possible(0), STATE);
            refused(() -> withoutSets(how), "possible(1)", x -> x.possible(1), STATE);
        }
    }

    static void possibleIsBadAheadOfState() {
        for (int what : NOT_ZERO_OR_ONE) {
            refused(LooksTogether::new, "possible(" + what + ")", x -> x.possible(what), BAD);
        }
    }

    static void possibleOfNoneIsZeroAndNone() {
        due("how many", ring().possible(0), 0);
        due("the least", ring().possible(1), NONE);
    }

    static void possibleOfASetWithWeightsZeroAloneIsNone() {
        LooksTogether x = some();
        due("some are", x.possible(0) > 0 ? 1 : 0, 1);
        x.put(1);
        due("how many", x.possible(0), 0);
        due("the least", x.possible(1), NONE);
        due("eight of 0", with(4, EIGHT_SETS).possible(0), 0);
    }

    static void possibleOfAll() {
        LooksTogether x = with(6, 1);
        weigh(x, 0, 1, 1000);
        due("how many", x.possible(0), 64);
        due("the least", x.possible(1), 0);
        LooksTogether y = weigh(with(1, 1), 0, 1, 1);
        due("how many of n 1", y.possible(0), 2);
    }

    static void possibleOfTheLastAlone() {
        LooksTogether x = with(6, 7, 56);
        x.weight(0, 7, 1);
        x.weight(1, 7, 1);
        due("how many", x.possible(0), 1);
        due("the least", x.possible(1), 63);
    }

    static void possibleNeedsEachSet() {
        LooksTogether x = with(4, EIGHT_SETS);
        for (int c = 0; c < 8; c++) {
            due("without " + c, x.possible(0), 0);
            x.weight(c, 0, 1);
        }
        due("all", x.possible(0), 1);
        due("all", x.possible(1), 0);
        x.weight(7, 0, 0);
        due("without the last", x.possible(0), 0);
    }

    // ---- promise 13: "How many JOINTS are LOST (what 0), the first (8 c and the JOINT) (1; NONE). BAD; STATE"

    static void lostOfAnotherWhatIsBad() {
        for (int what : NOT_ZERO_OR_ONE) {
            refused(Edges::some, "lost(" + what + ")", x -> x.lost(what), BAD);
        }
    }

    static void lostOfNoSetsIsState() {
        for (int way = 0; way < 4; way++) {
            int how = way;
            refused(() -> withoutSets(how), "lost(0)", x -> x.lost(0), STATE);
            refused(() -> withoutSets(how), "lost(1)", x -> x.lost(1), STATE);
        }
    }

    static void lostIsBadAheadOfState() {
        for (int what : NOT_ZERO_OR_ONE) {
            refused(LooksTogether::new, "lost(" + what + ")", x -> x.lost(what), BAD);
        }
    }

    static void lostOfNoneIsZeroAndNone() {
        due("how many", some().lost(0), 0);
        due("the first", some().lost(1), NONE);
        due("how many of 0 alone", with(4, EIGHT_SETS).lost(0), 0);
        due("the first of 0 alone", with(4, EIGHT_SETS).lost(1), NONE);
    }

    static void lostOfTheFirstOfAllIsZero() {
        due("the ring", ring().lost(1), 0);
        due("the ring", ring().lost(0), 8);
    }

    static void lostOfTheLastOfAllIs63() {
        LooksTogether x = with(6, 1, 2, 4, 8, 16, 32, 3, 56);
        for (int c = 0; c < 8; c++) {
            x.weight(c, 0, 1);
        }
        x.weight(7, 7, 1);
        due("how many", x.lost(0), 1);
        due("the first", x.lost(1), 8 * 7 + 7);
    }

    static void lostOfAllWhereNoneIsPossible() {
        LooksTogether x = with(6, 7, 11, 13, 14, 19, 21, 22, 1);
        for (int place = 0; place < 56; place++) {
            x.weight(place / 8, place % 8, 1000);
        }
        due("SET 7 has 0 alone", x.possible(0), 0);
        due("how many", x.lost(0), 56);
        x.weight(7, 1, 1);
        due("LOOK 0 is 1: those of SETS 0, 1, 2, 4, 5 without", x.lost(0), 5 * 4);
        due("the first", x.lost(1), 0);
    }

    static void lostIsOfTheTableAsItIsNow() {
        LooksTogether x = with(3, 1, 7);
        weigh(x, 0, 1, 0);
        weigh(x, 1, 1, 0, 0, 0, 0, 0, 0, 1);
        due("the last JOINT", x.lost(1), 8 + 7);
        weigh(x, 0, 0, 1);
        due("the first JOINT of SET 1", x.lost(1), 8);
        weigh(x, 0, 1, 0);
        x.weight(1, 0, 0);
        due("none is POSSIBLE any more", x.lost(0), 2);
        due("the first of all", x.lost(1), 0);
    }

    // ---- promises 14, 15: "THE BOUND", "The least HIDDEN by which the sum is THE BOUND. STATE likewise."

    static void boundAndBestOfNoSetsAreState() {
        for (int way = 0; way < 4; way++) {
            int how = way;
            refused(() -> withoutSets(how), "bound", LooksTogether::bound, STATE);
            refused(() -> withoutSets(how), "best", LooksTogether::best, STATE);
        }
    }

    private static LooksTogether allBets(int stake) {
        LooksTogether x = with(4, EIGHT_SETS);
        for (int c = 0; c < 8; c++) {
            for (int j = 0; j < (c < 4 ? 8 : 4); j++) {
                x.stake(c, j, stake);
            }
        }
        return x;
    }

    static void boundOfTheLeastStakes() {
        due("bound", allBets(-100).bound(), -800);
        due("best", allBets(-100).best(), 0);
    }

    static void boundOfTheMostStakes() {
        due("bound", allBets(100).bound(), 800);
        due("best", allBets(100).best(), 0);
    }

    static void boundOfNoStakes() {
        due("bound", with(6, 1).bound(), 0);
        due("best", with(6, 1).best(), 0);
    }

    static void boundMayBeBelowZeroThoughSomeStakeIsAbove() {
        LooksTogether x = with(2, 1, 2, 3);
        bet(x, 0, 1, -100);
        bet(x, 1, -100, -2);
        bet(x, 2, -1, -1, -1, -1);
        due("1, -2 and -1", x.bound(), -2);
        due("by LOOK 1", x.best(), 2);
    }

    static void bestIsTheLeastOfThoseAlike() {
        LooksTogether x = with(6, 56);
        bet(x, 0, 0, 0, 0, 0, 0, 0, 0, 1);
        due("LOOKS 3, 4, 5", x.best(), 56);
        x.stake(0, 4, 1);
        due("LOOK 5 alone is less", x.best(), 32);
        x.stake(0, 4, 2);
        x.stake(0, 7, 3);
        due("the greater sum goes first", x.best(), 56);
    }

    static void bestMayBeTheFirstOrTheSecondHidden() {
        LooksTogether x = with(6, 1, 14);
        bet(x, 0, -1, 0);
        bet(x, 1, 9);
        due("HIDDEN 1", x.best(), 1);
        due("9 and 0", x.bound(), 9);
        bet(x, 0, 1, 0);
        due("HIDDEN 0", x.best(), 0);
        due("9 and 1", x.bound(), 10);
    }

    static void bestMayBeTheLastHidden() {
        LooksTogether x = with(6, 7, 56);
        bet(x, 0, 0, 0, 0, 0, 0, 0, 0, 1);
        bet(x, 1, 0, 0, 0, 0, 0, 0, 0, 1);
        due("best", x.best(), 63);
        due("bound", x.bound(), 2);
    }

    static void boundIsOfStakesOfSetsThatThereAre() {
        LooksTogether x = allBets(100);
        x.drop();
        due("seven", x.bound(), 700);
        x.put(9);
        due("a new one", x.bound(), 700);
    }

    // ---- promise 16: "THE WORTH. STATE likewise."

    static void worthOfNoSetsIsState() {
        for (int way = 0; way < 4; way++) {
            int how = way;
            refused(() -> withoutSets(how), "worth", LooksTogether::worth, STATE);
        }
    }

    private static LooksTogether mostWeights(int stake) {
        LooksTogether x = with(6, 7, 11, 13, 14, 19, 21, 22, 25);
        for (int place = 0; place < 64; place++) {
            x.weight(place / 8, place % 8, 1000);
            x.stake(place / 8, place % 8, stake);
        }
        return x;
    }

    static void worthOfTheMost() {
        due("worth", mostWeights(100).worth(), 6400000);
        due("agrees", mostWeights(100).agrees(), 1);
        due("beyond", mostWeights(100).beyond(), 0);
    }

    static void worthOfTheLeast() {
        due("worth", mostWeights(-100).worth(), -6400000);
        due("beyond", mostWeights(-100).beyond(), 0);
    }

    static void worthOfNothing() {
        due("no WEIGHTS", allBets(100).worth(), 0);
        due("no STAKES", ring().worth(), 0);
        due("where it does not AGREE", quarrelling().worth(), some().worth() + -100 * (9 - some().weight(1, 0, 0)));
    }

    static void worthIsOfSetsThatThereAre() {
        LooksTogether x = mostWeights(100);
        x.drop();
        due("seven", x.worth(), 5600000);
        x.put(1);
        due("a new one", x.worth(), 5600000);
    }

    // ---- promise 17: "Whether the TABLE is BEYOND (1, 0). STATE likewise."

    static void beyondOfNoSetsIsState() {
        for (int way = 0; way < 4; way++) {
            int how = way;
            refused(() -> withoutSets(how), "beyond", LooksTogether::beyond, STATE);
        }
    }

    private static LooksTogether ringWithBets() {
        LooksTogether x = ring();
        for (int c = 0; c < 3; c++) {
            bet(x, c, 1, 0, 0, 1);
        }
        return bet(x, 3, 0, 1, 1, 0);
    }

    static void beyondIsAboveAndNotAlike() {
        LooksTogether x = ringWithBets();
        due("8 and 3 times 2", x.beyond(), 1);
        bet(x, 3, 0, 0, 0, 0);
        due("6 and 3 times 2", x.beyond(), 0);
        due("worth", x.worth(), 6);
        due("bound", x.bound(), 3);
        bet(x, 3, 0, 1, 0, 0);
        due("7 and 3 times 2: above by one", x.beyond(), 1);
        due("worth", x.worth(), 7);
        due("bound", x.bound(), 3);
    }

    static void beyondNeedsATableThatAgrees() {
        LooksTogether x = ringWithBets();
        x.weight(3, 1, 2);
        due("worth is above", x.worth() > x.bound() * x.told(0, 2) ? 1 : 0, 1);
        due("beyond", x.beyond(), 0);
        x.weight(3, 1, 1);
        due("as it was", x.beyond(), 1);
    }

    static void beyondNotOfWeightsZeroAlone() {
        due("STAKES above 0", allBets(100).beyond(), 0);
        due("STAKES below 0", allBets(-100).beyond(), 0);
    }

    static void beyondNotOfHiddenThatAreMixed() {
        LooksTogether x = some();
        due("some", x.beyond(), 0);
        LooksTogether y = allBets(7);
        y.mix(65535);
        due("all alike", y.beyond(), 0);
    }

    static void beyondNotOfOneSet() {
        LooksTogether x = with(2, 3);
        weigh(x, 0, 0, 3, 0, 1000);
        bet(x, 0, 1, 100, 1, 100);
        due("worth", x.worth(), 100300);
        due("bound", x.bound(), 100);
        due("not above 100 times 1003", x.beyond(), 0);
    }

    static void beyondWithABoundBelowZero() {
        LooksTogether x = ring();
        for (int c = 0; c < 3; c++) {
            bet(x, c, 0, -100, -100, 0);
        }
        bet(x, 3, -100, 0, 0, -100);
        due("bound", x.bound(), -100);
        due("worth", x.worth(), 0);
        due("0 is above -100 times 2", x.beyond(), 1);
    }

    // ---- promise 20: "The WEIGHTS become those of HIDDEN (bit h: HIDDEN h once; 0 to 65535): how many they are."

    static void mixOfNoneIsTheLeast() {
        LooksTogether x = some();
        due("mix(0)", x.mix(0), 0);
        due("JOINTS", x.count(3), 0);
        due("agrees", x.agrees(), 1);
        due("parted", x.parted(), STATE);
        refused(Edges::some, "mix(-1)", y -> y.mix(-1), BAD);
    }

    static void mixOfAllIsTheMost() {
        LooksTogether x = with(4, 7, 3, 8);
        due("mix(65535)", x.mix(65535), 16);
        for (int j = 0; j < 8; j++) {
            due("three LOOKS", x.weight(0, j, 2), 2);
        }
        for (int j = 0; j < 4; j++) {
            due("two LOOKS", x.weight(1, j, 4), 4);
        }
        for (int j = 0; j < 2; j++) {
            due("one LOOK", x.weight(2, j, 8), 8);
        }
        refused(Edges::some, "mix(65536)", y -> y.mix(65536), BAD);
    }

    static void mixFarOffIsBad() {
        for (int some : new int[] {LEAST, LEAST + 1, MOST, 65537, 1 << 30, -65535}) {
            refused(Edges::some, "mix(" + some + ")", x -> x.mix(some), BAD);
            refused(() -> with(3, 7), "mix(" + some + ")", x -> x.mix(some), BAD);
        }
    }

    static void mixOfHiddenThatThereAreNotIsBad() {
        int[] most = {3, 15, 255};
        for (int n = 1; n <= 3; n++) {
            int looks = n;
            int all = most[n - 1];
            due("all of n " + n, with(n, 1).mix(all), 1 << n);
            due("the last of n " + n, with(n, 1).mix(all / 2 + 1), 1);
            for (int some : new int[] {all + 1, all + 2, 2 * all + 1, 32768, 65535}) {
                refused(() -> weigh(with(looks, 1), 0, 3, 4), "mix(" + some + ") of n " + n, x -> x.mix(some), BAD);
            }
        }
    }

    static void mixOfMoreThanFourLooksIsBad() {
        for (int n = 5; n <= 6; n++) {
            int looks = n;
            for (int some : new int[] {0, 1, 65535, -1}) {
                refused(() -> weigh(with(looks, 1), 0, 3, 4), "mix(" + some + ") of n " + n, x -> x.mix(some), BAD);
            }
        }
    }

    static void mixOfNoSetsIsState() {
        for (int some : new int[] {0, 1, 65535}) {
            refused(LooksTogether::new, "mix(" + some + ")", x -> x.mix(some), STATE);
        }
        refused(() -> withoutSets(1), "mix(255)", x -> x.mix(255), STATE);
    }

    static void mixIsBadAheadOfState() {
        for (int some : new int[] {-1, 65536, LEAST, MOST}) {
            refused(LooksTogether::new, "mix(" + some + ")", x -> x.mix(some), BAD);
        }
        refused(() -> withoutSets(1), "mix(256) of n 3", x -> x.mix(256), BAD);
        refused(() -> with(5), "mix(1) of n 5", x -> x.mix(1), BAD);
    }

    static void mixTakesTheWeightsThatWere() {
        LooksTogether x = with(2, 3, 1);
        weigh(x, 0, 1000, 1000, 1000, 1000);
        weigh(x, 1, 7, 8);
        due("HIDDEN 3", x.mix(8), 1);
        due("sum", x.told(0, 2), 1);
        due("sum", x.told(1, 2), 1);
        due("JOINTS", x.count(3), 2);
        due("the same again is not added", x.mix(8), 1);
        due("sum", x.told(0, 2), 1);
    }

    static void mixLeavesStakesAndParities() {
        LooksTogether x = some();
        x.mix(65535);
        x.mix(1 | 1 << 3 | 1 << 5 | 1 << 14);
        alike("mixed there and back", x, some());
    }

    // ---- promise 21: "How many HIDDEN fulfil all PARITIES that are told. STATE likewise."

    static void fulfilOfNoSetsIsState() {
        for (int way = 0; way < 4; way++) {
            int how = way;
            refused(() -> withoutSets(how), "fulfil", LooksTogether::fulfil, STATE);
        }
    }

    static void fulfilOfNoParitiesIsAll() {
        for (int n = 1; n <= 6; n++) {
            due("n " + n, with(n, 1).fulfil(), 1 << n);
        }
    }

    static void fulfilOfParitiesThatCanNotBeIsZero() {
        LooksTogether x = with(6, 1, 2, 3);
        x.parity(0, 1);
        x.parity(1, 1);
        due("two of them", x.fulfil(), 16);
        x.parity(2, 1);
        due("three of them", x.fulfil(), 0);
        x.parity(2, 0);
        due("as it must be", x.fulfil(), 16);
    }

    static void fulfilOfOneHidden() {
        LooksTogether x = with(6, 1, 2, 4, 8, 16, 32);
        for (int c = 0; c < 6; c++) {
            x.parity(c, 1);
            due("of " + (c + 1), x.fulfil(), 64 >> c + 1);
        }
    }

    // ---- promise 22: "THE LEAST PROOF. STATE likewise; NONE: there is none."; "each LOOK in an even number of them"

    static void proofOfNoSetsIsState() {
        for (int way = 0; way < 4; way++) {
            int how = way;
            refused(() -> withoutSets(how), "proof", LooksTogether::proof, STATE);
        }
    }

    static void proofOfParitiesThatCanBeIsNone() {
        due("none told", with(4, EIGHT_SETS).proof(), NONE);
        LooksTogether x = with(4, EIGHT_SETS);
        for (int c = 0; c < 8; c++) {
            x.parity(c, 0);
        }
        due("all 0", x.proof(), NONE);
        for (int c = 0; c < 8; c++) {
            x.parity(c, Integer.bitCount(EIGHT_SETS[c]) % 2);
        }
        due("all as by the last HIDDEN", x.proof(), NONE);
        due("one SET", withParities(with(1, 1), 1).proof(), NONE);
    }

    private static LooksTogether withParities(LooksTogether x, int... parities) {
        for (int c = 0; c < parities.length; c++) {
            x.parity(c, parities[c]);
        }
        return x;
    }

    static void proofNeedsParitiesThatAreTold() {
        LooksTogether x = withParities(with(2, 1, 2, 3), 0, 0, 1);
        due("told", x.proof(), 7);
        for (int c = 0; c < 3; c++) {
            int was = x.parity(c, NONE);
            due("one is not", x.proof(), NONE);
            x.parity(c, was);
        }
        due("told again", x.proof(), 7);
    }

    static void proofOfSevenSets() {
        LooksTogether x = withParities(with(6, 3, 6, 12, 24, 48, 1, 32), 0, 0, 0, 0, 0, 0, 1);
        due("the first seven", x.proof(), 127);
        LooksTogether y = withParities(with(6, 7, 3, 6, 12, 24, 48, 1, 32), NONE, 0, 0, 0, 0, 0, 0, 1);
        due("the last seven", y.proof(), 254);
    }

    static void proofIsOfTheFewestSets() {
        LooksTogether x = withParities(with(4, 1, 2, 4, 7, 8, 9), 0, 0, 0, 1, 0, 1);
        due("three, though four have a less sum", x.proof(), 1 + 16 + 32);
        x.parity(5, 0);
        due("four", x.proof(), 15);
    }

    static void proofIsThenOfTheLeastSum() {
        LooksTogether x = withParities(with(4, 1, 2, 3, 4, 5, 6, 8, 9), 0, 0, 1, 0, 1, 1, 0, 1);
        due("SETS 0, 1, 2", x.proof(), 7);
        x.parity(2, 0);
        due("SETS 0, 3, 4", x.proof(), 1 + 8 + 16);
        x.parity(4, 0);
        due("SETS 1, 3, 5", x.proof(), 2 + 8 + 32);
        x.parity(5, 0);
        due("SETS 0, 6, 7", x.proof(), 1 + 64 + 128);
        x.parity(7, 0);
        due("none", x.proof(), NONE);
    }

    static void proofIsOfSetsThatThereAre() {
        LooksTogether x = withParities(with(2, 1, 2, 3), 0, 0, 1);
        x.drop();
        due("two are left", x.proof(), NONE);
        x.put(3);
        due("a new one without PARITY", x.proof(), NONE);
        x.parity(2, 1);
        due("told", x.proof(), 7);
    }
}
