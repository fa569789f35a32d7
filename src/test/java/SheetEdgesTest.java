/** Boundary cases of promises 27 to 30: SHEETS, their FAULTS, and count. */
public final class SheetEdgesTest extends Edges {
    private static final int[] NOT_A_SHEET = {-1, 4, 5, LEAST, MOST};
    private static final int[] NOT_A_LANE = {-1, 3, 4, LEAST, MOST};

    public static void main(String[] args) throws ReflectiveOperationException {
        run(SheetEdgesTest.class);
    }

    /** A SET of three LOOKS, one of two, one of one, with WEIGHTS and STAKES that are unlike each other. */
    private static LooksTogether threeSets() {
        LooksTogether x = with(3, 7, 3, 1);
        weigh(x, 0, 1, 2, 3, 4, 5, 6, 7, 8);
        bet(x, 0, -1, -2, -3, -4, -5, -6, -7, -8);
        weigh(x, 1, 11, 12, 13, 14);
        bet(x, 1, -11, -12, -13, -14);
        weigh(x, 2, 21, 22);
        return bet(x, 2, -21, -22);
    }

    /** SHEETS 0, 1, 2 of nine CELLS of lane 0, 1, 2 each; SHEET 3 of nothing. */
    private static LooksTogether threeSheets() {
        LooksTogether x = threeSets();
        for (int k = 0; k < 3; k++) {
            fill(x, k, k, 10, 20, 30, 40, 50, 60, 70, 80, 90);
        }
        return x;
    }

    private static LooksTogether spoiled(int at, int v) {
        LooksTogether x = threeSheets();
        x.lay(2, at, v);
        return x;
    }

    /** What a CELL of the lane holds after v is laid, if it is a STAKE or a WEIGHT; else -20. */
    private static int kept(int lane, int v) {
        LooksTogether x = with(1, 1);
        x.sheet(0, lane, 2);
        x.lay(0, 0, v);
        if (x.draw(0, 1, 0, lane, 0) == 1) {
            return x.stake(0, 0, 0);
        }
        int answer = x.draw(0, 0, 0, lane, 0);
        return answer == 1 ? x.weight(0, 0, 0) : answer;
    }

    // ---- promise 27: "A SHEET is a new row of CELLS 0: 1. BAD: also n above 64; -10 - 4."

    static void sheetThatThereIsNotIsBad() {
        for (int k : NOT_A_SHEET) {
            refused(Edges::some, "sheet(" + k + ", 0, 1)", x -> x.sheet(k, 0, 1), BAD);
        }
        due("the first", some().sheet(0, 0, 1), 1);
        due("the last", some().sheet(3, 0, 1), 1);
    }

    static void sheetOfALaneThatThereIsNotIsBad() {
        for (int lane : NOT_A_LANE) {
            refused(Edges::some, "sheet(0, " + lane + ", 1)", x -> x.sheet(0, lane, 1), BAD);
        }
        due("the first", some().sheet(0, 0, 1), 1);
        due("the last", some().sheet(0, 2, 1), 1);
    }

    static void sheetOf64CellsIsTheMost() {
        for (int lane = 0; lane < 3; lane++) {
            LooksTogether x = new LooksTogether();
            due("sheet", x.sheet(0, lane, 64), 1);
            due("CELLS", x.count(4), 64);
            due("the last", x.lay(0, 63, 1), 1);
            due("one more there is not", x.lay(0, 64, 1), INDEX);
        }
    }

    static void sheetOfMoreThan64CellsIsBad() {
        for (int n : new int[] {65, 66, 128, 1 << 16, 1 << 30, MOST}) {
            refused(Edges::some, "sheet(0, 1, " + n + ")", x -> x.sheet(0, 1, n), BAD);
            refused(Edges::some, "sheet(3, 2, " + n + ")", x -> x.sheet(3, 2, n), BAD);
        }
    }

    static void sheetOfNoCellsIsNotNothing() {
        LooksTogether x = with(1, 1);
        due("sheet", x.sheet(0, 0, 0), 1);
        due("CELLS", x.count(4), 0);
        due("lay", x.lay(0, 0, 1), INDEX);
        due("draw", x.draw(0, 0, 0, 0, 0), INDEX);
        due("draw of another lane", x.draw(0, 0, 0, 1, 0), CAST);
    }

    static void sheetOfASizeBelowZeroIsAFault() {
        for (int n : new int[] {-1, -2, -64, -65, LEAST, LEAST + 1}) {
            refused(Edges::some, "sheet(0, 1, " + n + ")", x -> x.sheet(0, 1, n), SIZE);
            refused(Edges::some, "of nothing: sheet(3, 1, " + n + ")", x -> x.sheet(3, 1, n), SIZE);
        }
    }

    static void sheetIsBadAheadOfTheFault() {
        refused(Edges::some, "k", x -> x.sheet(4, 0, -1), BAD);
        refused(Edges::some, "k", x -> x.sheet(-1, 0, LEAST), BAD);
        refused(Edges::some, "lane", x -> x.sheet(0, 3, -1), BAD);
        refused(Edges::some, "lane", x -> x.sheet(0, -1, LEAST), BAD);
    }

    static void sheetIsANewRowOfZeros() {
        LooksTogether x = threeSheets();
        due("of another lane", x.sheet(0, 2, 9), 1);
        due("as it was there is none", x.draw(0, 0, 0, 0, 0), CAST);
        due("draw", x.draw(0, 0, 0, 2, 0), 1);
        due("all 0", x.told(0, 2), 0);
        due("of the same lane", x.sheet(1, 1, 9), 1);
        due("draw", x.draw(1, 0, 1, 1, 5), 1);
        due("all 0", x.told(1, 2), 0);
        due("the other stays", x.draw(2, 0, 2, 2, 7), 1);
        due("the other stays", x.told(2, 2), 80 + 90);
    }

    static void sheetThatWasShortenedIsOfZerosWhenItGrows() {
        LooksTogether x = threeSheets();
        x.sheet(1, 1, 2);
        due("two CELLS", x.lay(1, 2, 1), INDEX);
        x.sheet(1, 1, 9);
        due("draw", x.draw(0, 0, 1, 1, 1), 1);
        due("all 0", x.told(0, 2), 0);
    }

    // ---- promise 28: "CELL i of a SHEET becomes v (its lowest bits): 1. BAD: k; -10 less the FAULT: NULL, INDEX."

    static void layOfASheetThatThereIsNotIsBad() {
        for (int k : NOT_A_SHEET) {
            refused(Edges::some, "lay(" + k + ", 0, 1)", x -> x.lay(k, 0, 1), BAD);
            refused(Edges::some, "lay(" + k + ", -1, 1)", x -> x.lay(k, -1, 1), BAD);
        }
    }

    static void layOfNothingIsNull() {
        refused(Edges::some, "lay(3, 0, 1)", x -> x.lay(3, 0, 1), NULL);
        for (int k = 0; k < 4; k++) {
            int sheet = k;
            refused(LooksTogether::new, "lay(" + k + ", 0, 1)", x -> x.lay(sheet, 0, 1), NULL);
        }
    }

    static void layIsNullAheadOfIndex() {
        for (int i : new int[] {-1, 64, LEAST, MOST}) {
            refused(Edges::some, "lay(3, " + i + ", 1)", x -> x.lay(3, i, 1), NULL);
        }
    }

    static void layBelowTheFirstCellIsIndex() {
        for (int i : new int[] {-1, -2, LEAST, LEAST + 1}) {
            for (int k = 0; k < 3; k++) {
                int sheet = k;
                refused(Edges::some, "lay(" + k + ", " + i + ", 1)", x -> x.lay(sheet, i, 1), INDEX);
            }
        }
    }

    static void layPastTheLastCellIsIndex() {
        int[] cells = {3, 9, 2};
        for (int k = 0; k < 3; k++) {
            int sheet = k;
            for (int i : new int[] {cells[k], cells[k] + 1, 63, 64, MOST}) {
                refused(Edges::some, "lay(" + k + ", " + i + ", 1)", x -> x.lay(sheet, i, 1), INDEX);
            }
            due("the last CELL", some().lay(k, cells[k] - 1, 1), 1);
            due("the first CELL", some().lay(k, 0, 1), 1);
        }
    }

    static void layIntoOneOfNoCellsIsIndex() {
        LooksTogether x = new LooksTogether();
        x.sheet(2, 2, 0);
        due("CELL 0", x.lay(2, 0, 1), INDEX);
    }

    static void layChangesThatCellAlone() {
        LooksTogether x = threeSheets();
        due("lay", x.lay(1, 4, 99), 1);
        due("draw", x.draw(0, 0, 1, 1, 0), 1);
        int[] due = {10, 20, 30, 40, 99, 60, 70, 80};
        for (int j = 0; j < 8; j++) {
            due("CELL " + j, x.weight(0, j, j + 1), due[j]);
        }
        x.lay(1, 4, 50);
        alike("laid there and back", x, threeSheets());
    }

    static void layOfAByteKeepsItsLowestEightBits() {
        int[][] laid = {{127, 127}, {128, -20}, {129, -20}, {156, -100}, {155, -20}, {255, -1}, {256, 0}, {257, 1},
            {356, 100}, {383, 127}, {384, -20}, {-1, -1}, {-100, -100}, {-128, -20}, {-129, 127}, {-156, 100},
            {-256, 0}, {1000, -24}, {65535, -1}, {65536, 0}, {MOST, -1}, {LEAST, 0}, {LEAST + 5, 5}};
        for (int[] v : laid) {
            due("BYTE of " + v[0], kept(0, v[0]), v[1]);
        }
    }

    static void layOfAShortKeepsItsLowestSixteenBits() {
        int[][] laid = {{127, 127}, {128, 128}, {255, 255}, {256, 256}, {1000, 1000}, {1001, -20}, {32767, -20},
            {32768, -20}, {65435, -20}, {65436, -100}, {65535, -1}, {65536, 0}, {65636, 100}, {66536, 1000},
            {66537, -20}, {-1, -1}, {-128, -20}, {-32768, -20}, {-65536, 0}, {-65436, 100}, {MOST, -1}, {LEAST, 0},
            {LEAST + 1000, 1000}};
        for (int[] v : laid) {
            due("SHORT of " + v[0], kept(1, v[0]), v[1]);
        }
    }

    static void layOfAnIntKeepsAll() {
        int[][] laid = {{127, 127}, {256, 256}, {1000, 1000}, {1001, -20}, {-1, -1}, {-100, -100}, {-101, -20},
            {-129, -20}, {65535, -20}, {65536, -20}, {65636, -20}, {-65536, -20}, {MOST, -20}, {LEAST, -20}};
        for (int[] v : laid) {
            due("INT of " + v[0], kept(2, v[0]), v[1]);
        }
    }

    // ---- promise 29: "BAD: c, sort, k, lane"

    static void drawOfASetThatThereIsNotIsBad() {
        for (int c : new int[] {-1, 3, 8, LEAST, MOST}) {
            refused(SheetEdgesTest::threeSheets, "c " + c, x -> x.draw(c, 0, 0, 0, 0), BAD);
            refused(SheetEdgesTest::threeSheets, "c " + c, x -> x.draw(c, 1, 0, 0, 0), BAD);
        }
        refused(LooksTogether::new, "no SETS", x -> x.draw(0, 0, 0, 0, 0), BAD);
        due("the eighth SET", full().draw(7, 0, 0, 0, 0), INDEX);
        refused(Edges::full, "the ninth SET", x -> x.draw(8, 0, 0, 0, 0), BAD);
    }

    static void drawOfAnotherSortIsBad() {
        for (int sort : new int[] {-1, 2, 3, LEAST, MOST}) {
            refused(SheetEdgesTest::threeSheets, "sort " + sort, x -> x.draw(0, sort, 0, 0, 0), BAD);
        }
    }

    static void drawOfASheetThatThereIsNotIsBad() {
        for (int k : NOT_A_SHEET) {
            refused(SheetEdgesTest::threeSheets, "k " + k, x -> x.draw(0, 0, k, 0, 0), BAD);
        }
    }

    static void drawOfALaneThatThereIsNotIsBad() {
        for (int lane : NOT_A_LANE) {
            refused(SheetEdgesTest::threeSheets, "lane " + lane, x -> x.draw(0, 0, 0, lane, 0), BAD);
        }
    }

    static void drawIsBadAheadOfFaults() {
        refused(SheetEdgesTest::threeSheets, "c ahead of NULL", x -> x.draw(3, 0, 3, 0, 0), BAD);
        refused(SheetEdgesTest::threeSheets, "sort ahead of NULL", x -> x.draw(0, 2, 3, 0, 0), BAD);
        refused(SheetEdgesTest::threeSheets, "lane ahead of NULL", x -> x.draw(0, 0, 3, 3, 0), BAD);
        refused(SheetEdgesTest::threeSheets, "c ahead of CAST", x -> x.draw(3, 0, 0, 1, 0), BAD);
        refused(SheetEdgesTest::threeSheets, "sort ahead of CAST", x -> x.draw(0, 2, 0, 1, 0), BAD);
        refused(SheetEdgesTest::threeSheets, "lane ahead of CAST", x -> x.draw(0, 0, 0, 3, 0), BAD);
        refused(SheetEdgesTest::threeSheets, "c ahead of INDEX", x -> x.draw(3, 0, 0, 0, -1), BAD);
        refused(SheetEdgesTest::threeSheets, "sort ahead of INDEX", x -> x.draw(0, -1, 0, 0, 99), BAD);
        refused(() -> spoiled(0, -101), "sort ahead of a CELL", x -> x.draw(0, 2, 2, 2, 0), BAD);
    }

    // ---- "-10 less the FAULT: NULL, CAST, then CELL by CELL INDEX"

    static void drawOfNothingIsNull() {
        for (int lane = 0; lane < 3; lane++) {
            int taken = lane;
            for (int sort = 0; sort < 2; sort++) {
                int asked = sort;
                refused(SheetEdgesTest::threeSheets, "lane " + lane, x -> x.draw(0, asked, 3, taken, 0), NULL);
            }
        }
    }

    static void drawIsNullAheadOfIndex() {
        for (int f : new int[] {-1, 64, LEAST, MOST}) {
            refused(SheetEdgesTest::threeSheets, "f " + f, x -> x.draw(0, 0, 3, 0, f), NULL);
        }
    }

    static void drawOfAnotherLaneIsCast() {
        for (int k = 0; k < 3; k++) {
            for (int lane = 0; lane < 3; lane++) {
                int sheet = k;
                int taken = lane;
                if (k == lane) {
                    due("its own lane " + k, threeSheets().draw(0, 0, k, lane, 0), 1);
                } else {
                    refused(SheetEdgesTest::threeSheets, k + " as " + lane, x -> x.draw(0, 0, sheet, taken, 0), CAST);
                    refused(SheetEdgesTest::threeSheets, k + " as " + lane, x -> x.draw(2, 1, sheet, taken, 0), CAST);
                }
            }
        }
    }

    static void drawIsCastAheadOfIndex() {
        for (int f : new int[] {-1, 2, 9, LEAST, MOST}) {
            refused(SheetEdgesTest::threeSheets, "f " + f, x -> x.draw(0, 0, 0, 1, f), CAST);
        }
    }

    static void drawIsCastAheadOfACellThatIsNone() {
        refused(() -> spoiled(0, -101), "CELL 0", x -> x.draw(0, 0, 2, 1, 0), CAST);
    }

    static void drawBelowTheFirstCellIsIndex() {
        for (int f : new int[] {-1, -2, -7, -8, -9, LEAST, LEAST + 1}) {
            for (int c = 0; c < 3; c++) {
                int set = c;
                refused(SheetEdgesTest::threeSheets, "SET " + c + " of " + f, x -> x.draw(set, 0, 0, 0, f), INDEX);
            }
        }
    }

    static void drawPastTheLastCellIsIndex() {
        int[] joints = {8, 4, 2};
        for (int c = 0; c < 3; c++) {
            int set = c;
            int last = 9 - joints[c];
            due("the last CELLS of SET " + c, threeSheets().draw(c, 0, 0, 0, last), 1);
            for (int f : new int[] {last + 1, 8, 9, 10, 63, 64}) {
                refused(SheetEdgesTest::threeSheets, "SET " + c + " of " + f, x -> x.draw(set, 0, 0, 0, f), INDEX);
                refused(SheetEdgesTest::threeSheets, "SET " + c + " of " + f, x -> x.draw(set, 1, 2, 2, f), INDEX);
            }
        }
    }

    /** f + i goes beyond the largest number and comes back below 0, and never to CELL 0. */
    static void drawWhereTheIndexWrapsIsIndex() {
        for (int f = MOST - 8; f > 0; f++) {
            int from = f;
            refused(SheetEdgesTest::threeSheets, "f " + f, x -> x.draw(0, 0, 0, 0, from), INDEX);
        }
        for (int f : new int[] {-1, -4, -7}) {
            refused(SheetEdgesTest::threeSheets, "f " + f, x -> x.draw(0, 0, 0, 0, f), INDEX);
        }
    }

    static void drawOfNoCellsIsIndex() {
        LooksTogether x = with(1, 1);
        x.sheet(1, 1, 0);
        due("no CELLS", x.draw(0, 0, 1, 1, 0), INDEX);
        x.sheet(1, 1, 1);
        due("one CELL", x.draw(0, 0, 1, 1, 0), INDEX);
        x.sheet(1, 1, 2);
        due("two CELLS", x.draw(0, 0, 1, 1, 0), 1);
    }

    static void drawOfTheLastOf64Cells() {
        LooksTogether x = with(3, 7);
        x.sheet(0, 2, 64);
        x.lay(0, 63, 1000);
        due("57", x.draw(0, 0, 0, 2, 57), INDEX);
        due("nothing", x.told(0, 2), 0);
        due("56", x.draw(0, 0, 0, 2, 56), 1);
        due("the last", x.weight(0, 7, 0), 1000);
    }

    // ---- "-20 less i: CELL f + i is none such; the first met: then none changed"

    static void drawOfACellThatIsNoneIsMinusTwentyLessItsPlace() {
        for (int i = 0; i < 8; i++) {
            int at = i;
            refused(() -> spoiled(at, -101), "WEIGHT " + i, x -> x.draw(0, 0, 2, 2, 0), -20 - i);
            refused(() -> spoiled(at, -101), "STAKE " + i, x -> x.draw(0, 1, 2, 2, 0), -20 - i);
            refused(() -> spoiled(at + 1, -101), "WEIGHT of CELL 1 on", x -> x.draw(0, 0, 2, 2, 1), -20 - i);
        }
        due("the ninth CELL is not read", spoiled(8, -101).draw(0, 0, 2, 2, 0), 1);
        due("the CELL ahead is not read", spoiled(0, -101).draw(0, 0, 2, 2, 1), 1);
    }

    static void drawOfWeightsOfZeroTo1000() {
        for (int v : new int[] {0, 1000}) {
            LooksTogether x = spoiled(3, v);
            due("draw of " + v, x.draw(0, 0, 2, 2, 0), 1);
            due("WEIGHT", x.weight(0, 3, 0), v);
        }
        for (int v : new int[] {-1, 1001, LEAST, MOST}) {
            refused(() -> spoiled(3, v), "draw of " + v, x -> x.draw(0, 0, 2, 2, 0), -23);
        }
    }

    static void drawOfStakesOfMinus100To100() {
        for (int v : new int[] {-100, -1, 0, 100}) {
            LooksTogether x = spoiled(3, v);
            due("draw of " + v, x.draw(0, 1, 2, 2, 0), 1);
            due("STAKE", x.stake(0, 3, 0), v);
        }
        for (int v : new int[] {-101, 101, LEAST, MOST}) {
            refused(() -> spoiled(3, v), "draw of " + v, x -> x.draw(0, 1, 2, 2, 0), -23);
        }
    }

    static void drawAnswersTheFirstMet() {
        refused(() -> {
            LooksTogether x = spoiled(2, -101);
            x.lay(2, 5, -101);
            return x;
        }, "two that are none", x -> x.draw(0, 0, 2, 2, 0), -22);
        refused(() -> spoiled(8, -101), "CELL 8 ahead of INDEX", x -> x.draw(0, 0, 2, 2, 2), -26);
        refused(() -> spoiled(8, -101), "CELL 8 alone, ahead of INDEX", x -> x.draw(0, 0, 2, 2, 8), -20);
        refused(() -> spoiled(0, -101), "INDEX ahead of CELL 0", x -> x.draw(0, 0, 2, 2, -1), INDEX);
        refused(() -> spoiled(0, -101), "INDEX, CELL 0 is not read", x -> x.draw(0, 0, 2, 2, 2), INDEX);
    }

    static void drawChangesThatSortOfThatSetAlone() {
        LooksTogether x = threeSheets();
        due("WEIGHTS of SET 1", x.draw(1, 0, 1, 1, 3), 1);
        for (int j = 0; j < 4; j++) {
            due("WEIGHT " + j, x.weight(1, j, 11 + j), 10 * (j + 4));
        }
        alike("WEIGHTS drawn and told back", x, threeSheets());
        LooksTogether y = threeSheets();
        due("STAKES of SET 1", y.draw(1, 1, 1, 1, 0), 1);
        for (int j = 0; j < 4; j++) {
            due("STAKE " + j, y.stake(1, j, -11 - j), 10 * (j + 1));
        }
        alike("STAKES drawn and told back", y, threeSheets());
    }

    static void drawnIsWhatTheCellsWereThen() {
        LooksTogether x = threeSheets();
        x.draw(2, 0, 1, 1, 0);
        x.lay(1, 0, 99);
        due("a WEIGHT does not follow the CELL", x.weight(2, 0, 5), 10);
        x.draw(2, 0, 1, 1, 0);
        due("nor the CELL the WEIGHT", x.weight(2, 0, 5), 99);
    }

    // ---- promise 30: "0 n, 1 SETS, 2 RAYS, 3 JOINTS of a WEIGHT above 0, 4 CELLS of SHEET 0 (NONE: nothing). BAD."

    static void countOfAnotherWhatIsBad() {
        for (int what : new int[] {-1, 5, 6, NONE, LEAST, MOST}) {
            refused(Edges::some, "count(" + what + ")", x -> x.count(what), BAD);
            refused(LooksTogether::new, "count(" + what + ")", x -> x.count(what), BAD);
        }
    }

    static void countOfTheLeast() {
        LooksTogether x = with(1);
        int[] due = {1, 0, 0, 0, NONE};
        for (int what = 0; what < 5; what++) {
            due("count(" + what + ")", x.count(what), due[what]);
        }
    }

    static void countOfTheMost() {
        LooksTogether x = with(6, 7, 11, 13, 14, 19, 21, 22, 25);
        for (int place = 0; place < 64; place++) {
            x.weight(place / 8, place % 8, 1);
        }
        for (int[] r : TWELVE_RAYS) {
            x.ray(r[0], r[1], r[2]);
        }
        x.sheet(0, 0, 64);
        int[] due = {6, 8, 12, 64, 64};
        for (int what = 0; what < 5; what++) {
            due("count(" + what + ")", x.count(what), due[what]);
        }
        x.drop();
        due("JOINTS of seven", x.count(3), 56);
        x.looks(6);
        due("JOINTS of none", x.count(3), 0);
    }

    static void countOfJointsOfAWeightAboveZero() {
        LooksTogether x = with(2, 3, 1);
        due("0 at first", x.count(3), 0);
        x.weight(0, 3, 1);
        due("1 is above", x.count(3), 1);
        x.weight(1, 0, 1000);
        due("two", x.count(3), 2);
        x.weight(0, 3, 0);
        due("0 is not", x.count(3), 1);
    }

    static void countOfCellsIsOfSheetZeroAlone() {
        LooksTogether x = new LooksTogether();
        for (int k = 1; k < 4; k++) {
            x.sheet(k, 0, 9);
        }
        due("nothing", x.count(4), NONE);
        x.sheet(0, 0, 0);
        due("no CELLS", x.count(4), 0);
        x.sheet(0, 2, 7);
        due("seven", x.count(4), 7);
        x.sheet(0, 2, -1);
        due("refused", x.count(4), 7);
        x.sheet(0, 2, 65);
        due("refused", x.count(4), 7);
    }
}
