/** The promises of the document one by one: ordinary inputs, the edges it names, wrong inputs. */
public final class PromisesTest {
    private static final int BAD = -1, STATE = -2, FULL = -3, NONE = -4, SPENT = -6;
    private static final int LEAST = Integer.MIN_VALUE, MOST = Integer.MAX_VALUE;
    private static final int NULL = -11, INDEX = -12, CAST = -13, SIZE = -14;

    private static final Check CHECK = new Check("promises");

    public static void main(String[] args) {
        newObject();
        looks();
        put();
        drop();
        told();
        weight();
        stake();
        parity();
        joint();
        agrees();
        quarrel();
        possible();
        lost();
        boundAndBest();
        worth();
        beyond();
        parted();
        part();
        partedAtTheLimit();
        partedAfterChanges();
        mix();
        fulfil();
        proof();
        ray();
        cut();
        square();
        colours();
        coloursOfMany();
        sheet();
        lay();
        draw();
        drawFaults();
        count();
        fullTable();
        fullRays();
        CHECK.end();
    }

    private static void due(int promise, String call, int got, int want) {
        CHECK.due("promise " + promise + ", " + call, got, want);
    }

    private static LooksTogether with(int n, int... sets) {
        LooksTogether x = new LooksTogether();
        x.looks(n);
        for (int some : sets) {
            x.put(some);
        }
        return x;
    }

    private static void weigh(LooksTogether x, int c, int... weights) {
        for (int j = 0; j < weights.length; j++) {
            x.weight(c, j, weights[j]);
        }
    }

    private static void bet(LooksTogether x, int c, int... stakes) {
        for (int j = 0; j < stakes.length; j++) {
            x.stake(c, j, stakes[j]);
        }
    }

    /** Four SETS of two in a ring whose WEIGHTS AGREE and have no HIDDEN. */
    private static LooksTogether ring() {
        LooksTogether x = with(4, 5, 9, 6, 10);
        weigh(x, 0, 1, 0, 0, 1);
        weigh(x, 1, 1, 0, 0, 1);
        weigh(x, 2, 1, 0, 0, 1);
        weigh(x, 3, 0, 1, 1, 0);
        return x;
    }

    private static void newObject() {
        LooksTogether x = new LooksTogether();
        due(1, "n", x.count(0), 4);
        due(1, "SETS", x.count(1), 0);
        due(1, "RAYS", x.count(2), 0);
        due(1, "JOINTS", x.count(3), 0);
        due(1, "CELLS", x.count(4), NONE);
        for (int k = 0; k < 4; k++) {
            due(1, "SHEET " + k, x.lay(k, 0, 0), NULL);
        }
        LooksTogether other = new LooksTogether();
        x.looks(2);
        x.put(1);
        x.ray(1, 0, 0);
        x.sheet(0, 0, 3);
        due(1, "n of another", other.count(0), 4);
        due(1, "SETS of another", other.count(1), 0);
        due(1, "RAYS of another", other.count(2), 0);
        due(1, "CELLS of another", other.count(4), NONE);
    }

    private static void looks() {
        LooksTogether x = new LooksTogether();
        due(2, "looks(1)", x.looks(1), 4);
        due(2, "looks(6)", x.looks(6), 1);
        x.put(32);
        x.ray(1, 2, 3);
        x.sheet(0, 1, 5);
        for (int n : new int[] {0, 7, -1, LEAST, MOST}) {
            due(2, "looks(" + n + ")", x.looks(n), BAD);
        }
        due(2, "refused: n stays", x.count(0), 6);
        due(2, "refused: SETS stay", x.count(1), 1);
        due(2, "the same n again", x.looks(6), 6);
        due(2, "SETS go", x.count(1), 0);
        due(2, "RAYS stay", x.count(2), 1);
        due(2, "SHEETS stay", x.count(4), 5);
        due(2, "looks(3)", x.looks(3), 6);
        due(2, "joint by the new n", x.put(7), 0);
    }

    private static void put() {
        LooksTogether x = new LooksTogether();
        due(3, "put(8)", x.put(8), 0);
        due(3, "put(14)", x.put(14), 1);
        due(3, "put(8) again", x.put(8), STATE);
        for (int some : new int[] {0, -1, 15, 16, 17, 9 + 32, LEAST, MOST}) {
            due(3, "put(" + some + ")", x.put(some), BAD);
        }
        due(3, "refused", x.count(1), 2);
        int[] more = {1, 2, 3, 4, 5, 6};
        for (int i = 0; i < more.length; i++) {
            due(3, "put(" + more[i] + ")", x.put(more[i]), 2 + i);
        }
        due(3, "put(9)", x.put(9), FULL);
        due(3, "put(6): STATE ahead of FULL", x.put(6), STATE);
        due(3, "put(15): BAD ahead of FULL", x.put(15), BAD);
        due(3, "refused", x.count(1), 8);
        LooksTogether y = with(6);
        due(3, "put(56)", y.put(56), 0);
        due(3, "put(64)", y.put(64), BAD);
        due(3, "put(60)", y.put(60), BAD);
        LooksTogether z = with(1);
        due(3, "put(2)", z.put(2), BAD);
        due(3, "put(1)", z.put(1), 0);
    }

    private static void drop() {
        LooksTogether x = with(3, 7, 3);
        weigh(x, 1, 1, 2, 3, 4);
        bet(x, 1, 5, 6, 7, 8);
        x.parity(1, 1);
        due(4, "drop()", x.drop(), 1);
        due(4, "the SET is gone", x.told(1, 0), BAD);
        due(4, "its looks may come again", x.put(3), 1);
        due(4, "WEIGHTS 0 at first", x.told(1, 2), 0);
        due(4, "a WEIGHT 0 at first", x.weight(1, 3, 0), 0);
        due(4, "a STAKE 0 at first", x.stake(1, 3, 0), 0);
        due(4, "worth", x.worth(), 0);
        due(4, "no PARITY at first", x.told(1, 3), NONE);
        due(4, "drop()", x.drop(), 1);
        due(4, "drop()", x.drop(), 0);
        due(4, "drop() of none", x.drop(), NONE);
    }

    private static void told() {
        LooksTogether x = with(6, 1 + 8 + 32, 2);
        weigh(x, 0, 1, 0, 1000, 0, 0, 7, 0, 2);
        x.parity(1, 1);
        due(5, "told(0, 0)", x.told(0, 0), 41);
        due(5, "told(0, 1)", x.told(0, 1), 3);
        due(5, "told(0, 2)", x.told(0, 2), 1010);
        x.weight(1, 0, 3);
        due(5, "told(0, 2): its own alone", x.told(0, 2), 1010);
        x.weight(1, 0, 0);
        due(5, "told(0, 3)", x.told(0, 3), NONE);
        due(5, "told(1, 0)", x.told(1, 0), 2);
        due(5, "told(1, 1)", x.told(1, 1), 1);
        due(5, "told(1, 2)", x.told(1, 2), 0);
        due(5, "told(1, 3)", x.told(1, 3), 1);
        for (int wrong : new int[] {-1, 4, LEAST, MOST}) {
            due(5, "told(0, " + wrong + ")", x.told(0, wrong), BAD);
            due(5, "told(" + wrong + ", 0)", x.told(wrong, 0), BAD);
        }
        due(5, "told(2, 0)", x.told(2, 0), BAD);
    }

    private static void weight() {
        LooksTogether x = with(4, 3, 4, 7);
        due(6, "weight(0, 3, 1000)", x.weight(0, 3, 1000), 0);
        due(6, "weight(0, 3, 5)", x.weight(0, 3, 5), 1000);
        due(6, "weight(2, 7, 9)", x.weight(2, 7, 9), 0);
        int[][] wrong = {{3, 0, 0}, {-1, 0, 0}, {LEAST, 0, 0}, {MOST, 0, 0}, {0, 4, 0}, {1, 2, 0}, {2, 8, 0},
            {0, -1, 0}, {0, LEAST, 0}, {0, MOST, 0}, {0, 3, -1}, {0, 3, 1001}, {0, 3, LEAST}, {0, 3, MOST}};
        for (int[] w : wrong) {
            due(6, "weight(" + w[0] + ", " + w[1] + ", " + w[2] + ")", x.weight(w[0], w[1], w[2]), BAD);
        }
        due(6, "refused", x.weight(0, 3, 0), 5);
        due(6, "the others stay", x.told(2, 2), 9);
        due(6, "of their own each", x.told(1, 2), 0);
    }

    private static void stake() {
        LooksTogether x = with(4, 3, 4, 7);
        due(7, "stake(0, 3, 100)", x.stake(0, 3, 100), 0);
        due(7, "stake(0, 3, -100)", x.stake(0, 3, -100), 100);
        int[][] wrong = {{3, 0, 0}, {-1, 0, 0}, {LEAST, 0, 0}, {MOST, 0, 0}, {0, 4, 0}, {1, 2, 0}, {2, 8, 0},
            {0, -1, 0}, {0, LEAST, 0}, {0, MOST, 0}, {0, 3, -101}, {0, 3, 101}, {0, 3, LEAST}, {0, 3, MOST}};
        for (int[] w : wrong) {
            due(7, "stake(" + w[0] + ", " + w[1] + ", " + w[2] + ")", x.stake(w[0], w[1], w[2]), -1000);
        }
        due(7, "refused", x.stake(0, 3, -1), -100);
        due(7, "-1 was", x.stake(0, 3, 0), -1);
    }

    private static void parity() {
        LooksTogether x = with(4, 3, 4);
        due(8, "parity(0, 1)", x.parity(0, 1), NONE);
        due(8, "parity(0, 0)", x.parity(0, 0), 1);
        due(8, "parity(0, NONE)", x.parity(0, NONE), 0);
        due(8, "parity(0, NONE)", x.parity(0, NONE), NONE);
        due(8, "parity(1, 1)", x.parity(1, 1), NONE);
        for (int wrong : new int[] {-1, 2, -3, -5, LEAST, MOST}) {
            due(8, "parity(1, " + wrong + ")", x.parity(1, wrong), BAD);
            due(8, "parity(" + wrong + ", 1)", x.parity(wrong, 1), BAD);
        }
        due(8, "refused", x.told(1, 3), 1);
        due(8, "refused", x.told(0, 3), NONE);
    }

    private static void joint() {
        LooksTogether x = with(6, 1 + 8 + 32, 2 + 16, 4);
        due(9, "joint(0, 1)", x.joint(0, 1), 1);
        due(9, "joint(0, 0)", x.joint(0, 0), 0);
        due(9, "joint(0, 8)", x.joint(0, 8), 2);
        due(9, "joint(0, 32)", x.joint(0, 32), 4);
        due(9, "joint(0, 22)", x.joint(0, 22), 0);
        due(9, "joint(0, 63)", x.joint(0, 63), 7);
        due(9, "joint(1, 16)", x.joint(1, 16), 2);
        due(9, "joint(1, 45)", x.joint(1, 45), 0);
        due(9, "joint(2, 4)", x.joint(2, 4), 1);
        due(9, "joint(2, 59)", x.joint(2, 59), 0);
        for (int wrong : new int[] {-1, 64, LEAST, MOST}) {
            due(9, "joint(0, " + wrong + ")", x.joint(0, wrong), BAD);
            due(9, "joint(" + wrong + ", 0)", x.joint(wrong, 0), BAD);
        }
        due(9, "joint(3, 0)", x.joint(3, 0), BAD);
        due(9, "h by n", with(1, 1).joint(0, 2), BAD);
    }

    private static void agrees() {
        LooksTogether x = with(4);
        due(10, "no SETS", x.agrees(), STATE);
        x.put(3);
        due(10, "one SET of 0 alone", x.agrees(), 1);
        weigh(x, 0, 1, 2, 3, 4);
        due(10, "one SET", x.agrees(), 1);
        x.put(12);
        due(10, "sums 10 and 0", x.agrees(), 0);
        weigh(x, 1, 0, 10, 0, 0);
        due(10, "no LOOK in both, the same sum", x.agrees(), 1);
        x.put(6);
        weigh(x, 2, 3, 7, 0, 0);
        due(10, "LOOK 1: 3 of 0 and 7 of 1, LOOK 2: 10 of 0", x.agrees(), 0);
        weigh(x, 1, 10, 0, 0, 0);
        due(10, "LOOK 2 in both likewise", x.agrees(), 1);
        weigh(x, 2, 4, 6, 0, 0);
        due(10, "LOOK 1: 4 and 6", x.agrees(), 0);
        LooksTogether y = with(3, 7, 3);
        weigh(y, 0, 1, 1, 0, 0, 0, 0, 1, 1);
        weigh(y, 1, 1, 1, 1, 1);
        due(10, "two LOOKS in both", y.agrees(), 1);
        weigh(y, 1, 2, 0, 0, 2);
        due(10, "each of the two alike, both together not", y.agrees(), 0);
        y.drop();
        due(10, "a SET that is gone does not quarrel", y.agrees(), 1);
    }

    private static void quarrel() {
        LooksTogether x = with(4);
        due(11, "no SETS", x.quarrel(), STATE);
        x.put(1);
        due(11, "one SET", x.quarrel(), NONE);
        x.put(2);
        x.put(3);
        x.put(4);
        due(11, "all 0", x.quarrel(), NONE);
        x.weight(3, 0, 1);
        due(11, "the fourth: sums", x.quarrel(), 3);
        weigh(x, 0, 1, 0);
        weigh(x, 1, 1, 0);
        weigh(x, 2, 0, 0, 1, 0);
        due(11, "SETS 1 and 2", x.quarrel(), 8 + 2);
        weigh(x, 2, 0, 1, 0, 0);
        due(11, "SETS 0 and 2", x.quarrel(), 2);
        weigh(x, 2, 1, 0, 0, 0);
        due(11, "it AGREES", x.quarrel(), NONE);
        LooksTogether y = with(6, 1, 2, 4, 8, 16, 32, 3, 48);
        weigh(y, 7, 1, 0, 0, 0);
        for (int c = 0; c < 6; c++) {
            y.weight(c, 0, 1);
        }
        weigh(y, 6, 1, 0, 0, 0);
        due(11, "eight SETS that AGREE", y.quarrel(), NONE);
        weigh(y, 7, 0, 0, 1, 0);
        due(11, "SETS 5 and 7", y.quarrel(), 8 * 5 + 7);
    }

    private static void possible() {
        LooksTogether x = with(3);
        due(12, "no SETS", x.possible(0), STATE);
        due(12, "no SETS", x.possible(1), STATE);
        due(12, "BAD ahead of STATE", x.possible(2), BAD);
        x.put(3);
        due(12, "0 alone", x.possible(0), 0);
        due(12, "0 alone", x.possible(1), NONE);
        weigh(x, 0, 0, 0, 3, 0);
        due(12, "LOOK 1 alone is 1", x.possible(0), 2);
        due(12, "LOOK 1 alone is 1", x.possible(1), 2);
        x.put(4);
        due(12, "a SET of 0 alone", x.possible(0), 0);
        weigh(x, 1, 0, 1);
        due(12, "LOOK 2 is 1", x.possible(0), 1);
        due(12, "LOOK 2 is 1", x.possible(1), 6);
        LooksTogether y = with(2, 3);
        weigh(y, 0, 1, 1, 1, 1);
        due(12, "all", y.possible(0), 4);
        due(12, "all", y.possible(1), 0);
        weigh(y, 0, 0, 0, 0, 1);
        due(12, "the last", y.possible(1), 3);
        for (int wrong : new int[] {-1, 2, LEAST, MOST}) {
            due(12, "possible(" + wrong + ")", x.possible(wrong), BAD);
        }
        due(12, "the ring", ring().possible(0), 0);
    }

    private static void lost() {
        LooksTogether x = with(3);
        due(13, "no SETS", x.lost(0), STATE);
        due(13, "no SETS", x.lost(1), STATE);
        due(13, "BAD ahead of STATE", x.lost(-1), BAD);
        x.put(3);
        x.put(6);
        due(13, "0 alone", x.lost(0), 0);
        due(13, "0 alone", x.lost(1), NONE);
        weigh(x, 0, 1, 0, 1, 0);
        weigh(x, 1, 1, 0, 1, 0);
        due(13, "LOOK 1 is 0 in the second: JOINT 2 of the first is LOST", x.lost(0), 1);
        due(13, "the first", x.lost(1), 2);
        weigh(x, 0, 1, 0, 0, 0);
        weigh(x, 1, 1, 0, 1, 1);
        due(13, "JOINT 3 of the second", x.lost(0), 1);
        due(13, "JOINT 3 of the second", x.lost(1), 8 + 3);
        weigh(x, 1, 1, 0, 1, 0);
        due(13, "none", x.lost(0), 0);
        due(13, "none", x.lost(1), NONE);
        weigh(x, 0, 0, 0, 0, 0);
        due(13, "none POSSIBLE: both of the second", x.lost(0), 2);
        due(13, "the first of them", x.lost(1), 8);
        LooksTogether y = with(3, 1, 7);
        weigh(y, 0, 1, 0);
        weigh(y, 1, 1, 0, 0, 0, 0, 0, 0, 1);
        due(13, "the last JOINT", y.lost(0), 1);
        due(13, "the last JOINT", y.lost(1), 8 + 7);
        weigh(y, 0, 0, 1);
        due(13, "JOINT 0, met before", y.lost(1), 8);
        weigh(y, 0, 1, 0);
        weigh(y, 1, 0, 0, 0, 0, 0, 0, 0, 1);
        due(13, "the first JOINT of all, met before", y.lost(1), 0);
        for (int wrong : new int[] {-1, 2, LEAST, MOST}) {
            due(13, "lost(" + wrong + ")", x.lost(wrong), BAD);
        }
        due(13, "the ring", ring().lost(0), 8);
    }

    private static void boundAndBest() {
        LooksTogether x = with(3);
        due(14, "no SETS", x.bound(), STATE);
        due(15, "no SETS", x.best(), STATE);
        x.put(3);
        due(14, "no STAKES", x.bound(), 0);
        due(15, "no STAKES", x.best(), 0);
        bet(x, 0, -7, -5, -5, -9);
        due(14, "all below 0", x.bound(), -5);
        due(15, "the least of four", x.best(), 1);
        x.put(6);
        bet(x, 1, 0, 0, 1, 3);
        due(14, "-5 and 3", x.bound(), -2);
        due(15, "LOOKS 1 and 2", x.best(), 6);
        bet(x, 1, 0, 0, 3, 3);
        due(15, "LOOKS 0 and 2 as well", x.best(), 5);
        LooksTogether y = with(6, 1, 2, 4, 8, 16, 32, 3, 7);
        for (int c = 0; c < 8; c++) {
            for (int j = 0; j < 1 << y.told(c, 1); j++) {
                y.stake(c, j, j == (1 << y.told(c, 1)) - 1 ? 100 : -100);
            }
        }
        due(14, "all SETS' most", y.bound(), 800);
        due(15, "the last HIDDEN", y.best(), 63);
    }

    private static void worth() {
        LooksTogether x = with(3);
        due(16, "no SETS", x.worth(), STATE);
        x.put(3);
        due(16, "nothing", x.worth(), 0);
        weigh(x, 0, 1, 2, 3, 4);
        bet(x, 0, 10, 0, -20, 5);
        due(16, "10 - 60 + 20", x.worth(), -30);
        x.put(7);
        weigh(x, 1, 0, 0, 0, 0, 0, 0, 0, 9);
        bet(x, 1, 50, 0, 0, 0, 0, 0, 0, 7);
        due(16, "and 63", x.worth(), 33);
        LooksTogether y = with(6, 7, 11, 13, 14, 19, 21, 22, 25);
        for (int place = 0; place < 64; place++) {
            y.weight(place / 8, place % 8, 1000);
            y.stake(place / 8, place % 8, 100);
        }
        due(16, "the most", y.worth(), 6400000);
    }

    private static void beyond() {
        due(17, "no SETS", with(3).beyond(), STATE);
        LooksTogether x = ring();
        due(17, "no STAKES", x.beyond(), 0);
        for (int c = 0; c < 3; c++) {
            bet(x, c, 1, 0, 0, 1);
        }
        bet(x, 3, 0, 1, 1, 0);
        due(17, "8 above 3 times 2", x.beyond(), 1);
        x.stake(3, 0, 1);
        due(17, "8 above 4 times 2: not", x.beyond(), 0);
        x.stake(3, 0, 0);
        x.weight(3, 0, 1);
        due(17, "it does not AGREE", x.beyond(), 0);
        x.weight(3, 0, 0);
        due(17, "again", x.beyond(), 1);
        LooksTogether y = with(3, 3);
        bet(y, 0, 1, 2, 3, 4);
        due(17, "0 above 4 times 0: not", y.beyond(), 0);
        bet(y, 0, -1, -1, -1, -1);
        due(17, "0 above -1 times 0: not", y.beyond(), 0);
        weigh(y, 0, 0, 0, 0, 5);
        due(17, "-5 above -1 times 5: not", y.beyond(), 0);
    }

    private static void parted() {
        due(18, "no SETS", with(3).parted(), STATE);
        LooksTogether x = with(2, 1);
        due(18, "T 0", x.parted(), STATE);
        weigh(x, 0, 25, 0);
        due(18, "T 25", x.parted(), STATE);
        weigh(x, 0, 24, 0);
        due(18, "T 24", x.parted(), 1);
        weigh(x, 0, 0, 1);
        due(18, "T 1", x.parted(), 1);
        x.put(2);
        due(18, "it does not AGREE", x.parted(), STATE);
        weigh(x, 1, 1, 0);
        due(18, "it AGREES", x.parted(), 1);
        due(18, "the ring", ring().parted(), 0);
    }

    private static void part() {
        LooksTogether x = with(2);
        due(19, "no SETS", x.part(0), STATE);
        due(19, "no SETS", x.part(NONE), STATE);
        for (int wrong : new int[] {-1, -2, -3, -5, LEAST}) {
            due(19, "part(" + wrong + "): BAD ahead of STATE", x.part(wrong), BAD);
        }
        x.put(1);
        due(19, "T 0", x.part(0), STATE);
        weigh(x, 0, 1, 2);
        due(19, "the first", x.part(0), 0);
        due(19, "the second: the least with LOOK 0", x.part(1), 1);
        due(19, "the third", x.part(2), 1);
        due(19, "no fourth", x.part(3), NONE);
        due(19, "none at the end", x.part(MOST), NONE);
        due(19, "0; 0, 1; 1", x.part(NONE), 4);
        weigh(x, 0, 24, 0);
        due(19, "the last of 24", x.part(23), 0);
        due(19, "no 25th", x.part(24), NONE);
        due(19, "24 tried", x.part(NONE), 24);
        for (int wrong : new int[] {-1, -2, -3, -5, LEAST}) {
            due(19, "part(" + wrong + ")", x.part(wrong), BAD);
        }
        x.put(2);
        due(19, "it does not AGREE", x.part(0), STATE);
        due(19, "it does not AGREE", x.part(NONE), STATE);
        LooksTogether y = ring();
        due(19, "the ring: none", y.part(0), NONE);
        due(19, "the ring: all tried", y.part(NONE), 16);
        LooksTogether z = with(3, 3, 5, 6);
        weigh(z, 0, 1, 1, 1, 0);
        weigh(z, 1, 2, 1, 0, 0);
        weigh(z, 2, 2, 1, 0, 0);
        // 0 stands; then 0 not, 1 stands; then 1 not, 2 stands.
        due(19, "0, 1, 2", z.part(2), 2);
        due(19, "1 and 2 and 2", z.part(NONE), 5);
    }

    /** Tables whose whole search takes 20000 and 20001 that are tried, found and not found. */
    private static void partedAtTheLimit() {
        LooksTogether x = with(4, 9, 12, 6, 10);
        weigh(x, 0, 5, 2, 4, 6);
        weigh(x, 1, 5, 2, 10, 0);
        weigh(x, 2, 9, 6, 1, 1);
        weigh(x, 3, 4, 3, 6, 4);
        due(18, "found with the 20000th", x.parted(), 1);
        due(19, "found with the 20000th", x.part(NONE), 20000);
        due(19, "found with the 20000th: no 18th", x.part(17), NONE);
        LooksTogether y = with(4, 5, 2, 3, 6, 1);
        weigh(y, 0, 4, 4, 1, 4);
        weigh(y, 1, 5, 8);
        weigh(y, 2, 0, 5, 5, 3);
        weigh(y, 3, 5, 3, 0, 5);
        weigh(y, 4, 5, 8);
        due(18, "ended with the 20000th", y.parted(), 0);
        due(19, "ended with the 20000th", y.part(NONE), 20000);
        due(19, "ended with the 20000th", y.part(0), NONE);
        LooksTogether z = with(5, 10, 20, 17, 24, 5);
        weigh(z, 0, 2, 3, 2, 5);
        weigh(z, 1, 2, 4, 6, 0);
        weigh(z, 2, 4, 2, 3, 3);
        weigh(z, 3, 3, 3, 2, 4);
        weigh(z, 4, 4, 4, 3, 1);
        due(18, "the 20001st would do", z.parted(), SPENT);
        due(19, "the 20001st would do", z.part(NONE), 20000);
        due(19, "SPENT", z.part(0), SPENT);
        due(19, "SPENT ahead of NONE", z.part(MOST), SPENT);
        due(19, "BAD ahead of SPENT", z.part(-1), BAD);
        LooksTogether w = with(4, 9, 6, 3, 5);
        weigh(w, 0, 5, 3, 4, 5);
        weigh(w, 1, 5, 3, 5, 4);
        weigh(w, 2, 3, 7, 6, 1);
        weigh(w, 3, 0, 8, 9, 0);
        due(18, "the 20001st would be the last", w.parted(), SPENT);
        due(19, "the 20001st would be the last", w.part(NONE), 20000);
    }

    /** The search is of the TABLE as it is now, whatever call changed it. */
    private static void partedAfterChanges() {
        LooksTogether x = with(2, 1);
        x.mix(1);
        due(19, "mixed", x.part(0), 0);
        x.mix(2);
        due(19, "mixed anew", x.part(0), 1);
        weigh(x, 0, 1, 0);
        due(19, "weighed", x.part(0), 0);
        x.sheet(0, 2, 3);
        x.lay(0, 1, 1);
        x.draw(0, 0, 0, 2, 0);
        due(19, "drawn", x.part(0), 1);
        x.put(2);
        due(19, "put", x.part(0), STATE);
        x.weight(1, 1, 1);
        due(19, "put and weighed", x.part(0), 3);
        x.drop();
        due(19, "dropped", x.part(0), 1);
        x.looks(3);
        x.put(4);
        x.weight(0, 1, 1);
        due(19, "looks", x.part(0), 4);
        due(19, "looks", x.part(NONE), 5);
    }

    private static void mix() {
        LooksTogether x = with(4);
        due(20, "no SETS", x.mix(1), STATE);
        due(20, "BAD ahead of STATE", x.mix(65536), BAD);
        x.put(3);
        x.put(12);
        x.weight(0, 3, 77);
        due(20, "mix of 1, 6, 15", x.mix(1 << 1 | 1 << 6 | 1 << 15), 3);
        int[] first = {0, 1, 1, 1};
        int[] second = {1, 1, 0, 1};
        for (int j = 0; j < 4; j++) {
            due(20, "WEIGHT 0 " + j, x.weight(0, j, first[j]), first[j]);
            due(20, "WEIGHT 1 " + j, x.weight(1, j, second[j]), second[j]);
        }
        for (int wrong : new int[] {-1, 65536, LEAST, MOST}) {
            due(20, "mix(" + wrong + ")", x.mix(wrong), BAD);
        }
        due(20, "refused", x.told(0, 2), 3);
        due(20, "all", x.mix(65535), 16);
        due(20, "all", x.weight(1, 2, 4), 4);
        due(20, "none", x.mix(0), 0);
        due(20, "none", x.count(3), 0);
        int[] most = {3, 15, 255};
        for (int n = 1; n <= 3; n++) {
            LooksTogether y = with(n, 1);
            due(20, "all of n " + n, y.mix(most[n - 1]), 1 << n);
            due(20, "one that there is not, n " + n, y.mix(most[n - 1] + 1), BAD);
            due(20, "some that there are not, n " + n, y.mix(65535), BAD);
        }
        due(20, "n 5", with(5, 1).mix(1), BAD);
        due(20, "n 6: BAD ahead of STATE", with(6).mix(0), BAD);
    }

    private static void fulfil() {
        LooksTogether x = with(3);
        due(21, "no SETS", x.fulfil(), STATE);
        x.put(3);
        due(21, "none told", x.fulfil(), 8);
        x.parity(0, 1);
        due(21, "LOOKS 0 and 1 unlike", x.fulfil(), 4);
        x.put(7);
        x.parity(1, 0);
        due(21, "and all three even", x.fulfil(), 2);
        x.put(4);
        x.parity(2, 0);
        due(21, "LOOK 2 is 1 by these", x.fulfil(), 0);
        x.parity(0, NONE);
        due(21, "LOOK 2 is 0, the others alike", x.fulfil(), 2);
        x.drop();
        due(21, "that of a SET that is gone is not asked", x.fulfil(), 4);
    }

    private static void proof() {
        LooksTogether x = with(4);
        due(22, "no SETS", x.proof(), STATE);
        x.put(1);
        x.parity(0, 1);
        due(22, "one SET", x.proof(), NONE);
        x.put(2);
        x.put(3);
        x.parity(1, 0);
        due(22, "the third has none", x.proof(), NONE);
        x.parity(2, 0);
        due(22, "1, 0 and 0", x.proof(), 7);
        x.parity(2, 1);
        due(22, "1, 0 and 1", x.proof(), NONE);
        x.parity(1, 1);
        due(22, "1, 1 and 1", x.proof(), 7);
        LooksTogether y = with(4, 3, 6, 12, 9, 5, 10, 1);
        int[] parities = {0, 0, 0, 1, 0, 1, 0};
        for (int c = 0; c < 7; c++) {
            y.parity(c, parities[c]);
        }
        // Even rings of three: LOOKS 0 1 2 (SETS 0, 1, 4: 0), 0 2 3 (2, 3, 4: 1), 1 2 3 (1, 2, 5: 1), 0 1 3 (0, 3, 5: 0).
        due(22, "three: the least of two", y.proof(), 4 + 8 + 16);
        y.parity(4, NONE);
        due(22, "three: the other", y.proof(), 2 + 4 + 32);
        y.parity(5, NONE);
        due(22, "four", y.proof(), 15);
        y.parity(3, NONE);
        due(22, "none", y.proof(), NONE);
        LooksTogether z = with(4, 1, 2, 4, 8, 7, 9, 11);
        for (int c = 0; c < 7; c++) {
            z.parity(c, c == 4 || c == 5 || c == 6 ? 1 : 0);
        }
        // Fewest ahead of least: SETS 0, 1, 2, 4 are 23, SETS 0, 3, 5 are 41; SETS 1, 5, 6 are even.
        due(22, "fewest first", z.proof(), 41);
        z.drop();
        z.drop();
        due(22, "SETS that are gone prove nothing", z.proof(), 23);
        z.drop();
        due(22, "SETS that are gone prove nothing", z.proof(), NONE);
        LooksTogether w = with(6, 3, 6, 12, 24, 48, 32 + 1, 1, 2);
        for (int c = 0; c < 6; c++) {
            w.parity(c, c == 5 ? 1 : 0);
        }
        due(22, "a ring of six", w.proof(), 63);
        LooksTogether v = with(6, 3, 6, 12, 24, 32 + 16 + 4, 32 + 2 + 1, 4 + 1, 2);
        for (int c = 0; c < 7; c++) {
            v.parity(c, 1);
        }
        due(22, "SETS 0, 1, 6", v.proof(), 1 + 2 + 64);
    }

    private static void ray() {
        LooksTogether x = new LooksTogether();
        int[][] wrong = {{0, 0, 0}, {6, 0, 0}, {0, -6, 0}, {1, 1, 6}, {LEAST, 1, 1}, {1, MOST, 1}, {1, 1, LEAST}};
        for (int[] w : wrong) {
            due(23, "ray(" + w[0] + ", " + w[1] + ", " + w[2] + ")", x.ray(w[0], w[1], w[2]), BAD);
        }
        due(23, "ray(2, 0, 0)", x.ray(2, 0, 0), 0);
        for (int by : new int[] {-5, -2, -1, 1, 2, 3, 5}) {
            due(23, "ray(" + by + ", 0, 0)", x.ray(by, 0, 0), STATE);
        }
        due(23, "ray(5, -5, 5)", x.ray(5, -5, 5), 1);
        due(23, "ray(-1, 1, -1)", x.ray(-1, 1, -1), STATE);
        due(23, "ray(1, 1, 1)", x.ray(1, 1, 1), 2);
        due(23, "ray(2, 4, 0)", x.ray(2, 4, 0), 3);
        due(23, "ray(-1, -2, 0)", x.ray(-1, -2, 0), STATE);
        due(23, "ray(1, 2, 1)", x.ray(1, 2, 1), 4);
        for (int z = 0; z < 7; z++) {
            due(23, "ray(0, z, 5)", x.ray(0, z - 1, 5), 5 + z);
        }
        due(23, "ray(5, 1, 1)", x.ray(5, 1, 1), FULL);
        due(23, "STATE ahead of FULL", x.ray(4, 0, 0), STATE);
        due(23, "BAD ahead of FULL", x.ray(0, 0, 0), BAD);
        due(23, "refused", x.count(2), 12);
    }

    private static void cut() {
        LooksTogether x = new LooksTogether();
        due(24, "none", x.cut(), NONE);
        x.ray(1, 0, 0);
        x.ray(0, 1, 0);
        due(24, "cut()", x.cut(), 1);
        due(24, "it is SQUARE to none", x.square(0), 0);
        due(24, "gone", x.square(1), BAD);
        due(24, "it may come again", x.ray(0, 1, 0), 1);
        due(24, "and is SQUARE", x.square(0), 2);
        x.cut();
        due(24, "another one", x.ray(1, 1, 0), 1);
        due(24, "is not", x.square(0), 0);
        due(24, "cut()", x.cut(), 1);
        due(24, "cut()", x.cut(), 0);
        due(24, "none", x.cut(), NONE);
    }

    private static void square() {
        LooksTogether x = new LooksTogether();
        due(25, "none", x.square(0), BAD);
        x.ray(1, 2, 3);
        x.ray(3, 0, -1);
        x.ray(1, 1, -1);
        x.ray(-5, 1, 1);
        due(25, "square(0)", x.square(0), 2 + 4 + 8);
        due(25, "square(1)", x.square(1), 1);
        due(25, "square(2)", x.square(2), 1);
        due(25, "square(3)", x.square(3), 1);
        for (int wrong : new int[] {-1, 4, LEAST, MOST}) {
            due(25, "square(" + wrong + ")", x.square(wrong), BAD);
        }
    }

    private static void colours() {
        LooksTogether x = new LooksTogether();
        int[] none = {0, 0, 1, 0, 0};
        dueColours(x, "no RAYS", none);
        x.ray(1, 0, 0);
        dueColours(x, "one", new int[] {0, 0, 2, 0, 1});
        x.ray(1, 1, 0);
        dueColours(x, "two that are not SQUARE", new int[] {0, 0, 4, 0, 2});
        x.cut();
        x.ray(0, 1, 0);
        dueColours(x, "two that are SQUARE", new int[] {1, 0, 3, 0, 1});
        x.ray(0, 0, 1);
        dueColours(x, "three", new int[] {3, 1, 3, 1, 1});
        x.ray(0, 1, 1);
        dueColours(x, "one more, SQUARE to the first", new int[] {4, 1, 5, 1, 2});
        x.cut();
        dueColours(x, "three again", new int[] {3, 1, 3, 1, 1});
        for (int wrong : new int[] {-1, 5, LEAST, MOST}) {
            due(26, "colours(" + wrong + ")", x.colours(wrong), BAD);
        }
        LooksTogether y = new LooksTogether();
        y.ray(0, 1, 0);
        y.ray(1, 1, 0);
        y.ray(1, 0, 1);
        y.ray(1, 0, 0);
        // 0 is SQUARE to 2 and 3, the rest to none.
        dueColours(y, "two pairs with one RAY in both", new int[] {2, 0, 10, 0, 3});
    }

    private static void coloursOfMany() {
        LooksTogether x = new LooksTogether();
        for (int i = 0; i < 12; i++) {
            x.ray(1 + i % 3, 1 + i / 3, i % 3 == 2 ? 5 : 3);
        }
        dueColours(x, "twelve with none SQUARE", new int[] {0, 0, 4096, 0, 12});
        LooksTogether y = new LooksTogether();
        int[][] rays = {{1, 0, 0}, {0, 1, 0}, {0, 0, 1}, {0, 1, 1}, {0, 1, -1}, {1, 0, 1}, {1, 0, -1}};
        for (int[] r : rays) {
            y.ray(r[0], r[1], r[2]);
        }
        // With 0 one of 5, 6 is RED; with 1 one of 3, 4; with 2 one of 3, 4 and one of 5, 6.
        dueColours(y, "three threes", new int[] {9, 3, 8, 2 + 8, 3});
    }

    private static void dueColours(LooksTogether x, String of, int[] want) {
        for (int what = 0; what < 5; what++) {
            due(26, "colours(" + what + ") of " + of, x.colours(what), want[what]);
        }
    }

    private static void sheet() {
        LooksTogether x = new LooksTogether();
        for (int k = 0; k < 4; k++) {
            due(27, "sheet(" + k + ", 0, 64)", x.sheet(k, 0, 64), 1);
            due(27, "the last CELL", x.lay(k, 63, 1), 1);
        }
        int[][] wrong = {{-1, 0, 1}, {4, 0, 1}, {LEAST, 0, 1}, {MOST, 0, 1}, {0, -1, 1}, {0, 3, 1}, {0, LEAST, 1},
            {0, MOST, 1}, {0, 0, 65}, {0, 0, MOST}, {4, 0, -1}, {0, 3, -1}};
        for (int[] w : wrong) {
            due(27, "sheet(" + w[0] + ", " + w[1] + ", " + w[2] + ")", x.sheet(w[0], w[1], w[2]), BAD);
        }
        due(27, "SIZE", x.sheet(0, 1, -1), SIZE);
        due(27, "SIZE", x.sheet(0, 1, LEAST), SIZE);
        due(27, "refused", x.count(4), 64);
        x.put(1);
        due(27, "refused: the lane stays", x.draw(0, 0, 0, 0, 62), 1);
        due(27, "refused: CELLS stay", x.weight(0, 1, 0), 1);
        due(27, "a new row", x.sheet(0, 2, 64), 1);
        due(27, "another lane", x.draw(0, 0, 0, 0, 62), CAST);
        due(27, "another lane", x.draw(0, 0, 0, 2, 62), 1);
        due(27, "CELLS 0", x.told(0, 2), 0);
        due(27, "no CELLS", x.sheet(0, 2, 0), 1);
        due(27, "no CELLS are not nothing", x.lay(0, 0, 1), INDEX);
        due(27, "no CELLS are not nothing", x.count(4), 0);
    }

    private static void lay() {
        LooksTogether x = with(1, 1);
        due(28, "nothing", x.lay(0, 0, 1), NULL);
        due(28, "nothing ahead of INDEX", x.lay(0, -1, 1), NULL);
        for (int wrong : new int[] {-1, 4, LEAST, MOST}) {
            due(28, "lay(" + wrong + ", 0, 1)", x.lay(wrong, 0, 1), BAD);
        }
        int[] large = {256 + 7, 65536 + 8, 9};
        int[] read = {7, 8, 9};
        for (int lane = 0; lane < 3; lane++) {
            x.sheet(lane, lane, 2);
            due(28, "lay", x.lay(lane, 0, large[lane]), 1);
            due(28, "lay", x.lay(lane, 1, 0), 1);
            due(28, "draw", x.draw(0, 0, lane, lane, 0), 1);
            due(28, "lowest bits of lane " + lane, x.weight(0, 0, 0), read[lane]);
            for (int i : new int[] {-1, 2, LEAST, MOST}) {
                due(28, "INDEX " + i, x.lay(lane, i, 1), INDEX);
            }
        }
        int[] below = {128 + 100, 32768 + 32700, -68};
        for (int lane = 0; lane < 3; lane++) {
            x.lay(lane, 0, below[lane]);
            due(28, "below 0", x.draw(0, 1, lane, lane, 0), 1);
        }
        due(28, "as it is", x.stake(0, 0, 0), -68);
        x.draw(0, 1, 0, 0, 0);
        due(28, "a BYTE below 0", x.stake(0, 0, 0), 228 - 256);
        x.draw(0, 1, 1, 1, 0);
        due(28, "a SHORT below 0", x.stake(0, 0, 0), 65468 - 65536);
        x.lay(2, 0, 256);
        x.draw(0, 0, 2, 2, 0);
        due(28, "an INT keeps all", x.weight(0, 0, 0), 256);
        x.lay(1, 0, 256);
        x.draw(0, 0, 1, 1, 0);
        due(28, "a SHORT keeps 256", x.weight(0, 0, 0), 256);
    }

    private static void draw() {
        LooksTogether x = with(3, 7, 3, 1);
        x.sheet(1, 1, 10);
        for (int i = 0; i < 10; i++) {
            x.lay(1, i, 10 * i);
        }
        due(29, "WEIGHTS", x.draw(0, 0, 1, 1, 2), 1);
        for (int j = 0; j < 8; j++) {
            due(29, "WEIGHT " + j, x.weight(0, j, 1), 10 * (j + 2));
            due(29, "STAKE " + j, x.stake(0, j, 0), 0);
        }
        due(29, "STAKES", x.draw(1, 1, 1, 1, 6), 1);
        for (int j = 0; j < 4; j++) {
            due(29, "STAKE " + j, x.stake(1, j, 0), 10 * (j + 6));
            due(29, "WEIGHT " + j, x.weight(1, j, 0), 0);
        }
        due(29, "the last two CELLS", x.draw(2, 0, 1, 1, 8), 1);
        due(29, "the last two CELLS", x.told(2, 2), 170);
        x.lay(1, 0, 1000);
        x.lay(1, 1, 0);
        due(29, "a WEIGHT of 1000", x.draw(2, 0, 1, 1, 0), 1);
        x.lay(1, 0, 100);
        x.lay(1, 1, -100);
        due(29, "STAKES of 100 and -100", x.draw(2, 1, 1, 1, 0), 1);
        due(29, "STAKES of 100 and -100", x.stake(2, 1, 0), -100);
    }

    private static void drawFaults() {
        LooksTogether x = with(3, 3);
        weigh(x, 0, 1, 2, 3, 4);
        x.sheet(0, 0, 5);
        int[][] wrong = {{1, 0, 0, 0, 0}, {-1, 0, 0, 0, 0}, {0, 2, 0, 0, 0}, {0, -1, 0, 0, 0}, {0, 0, 4, 0, 0},
            {0, 0, -1, 0, 0}, {0, 0, 0, 3, 0}, {0, 0, 0, -1, 0}, {0, 0, 1, 3, 0}, {LEAST, MOST, LEAST, MOST, LEAST}};
        for (int[] w : wrong) {
            due(29, "BAD", x.draw(w[0], w[1], w[2], w[3], w[4]), BAD);
        }
        due(29, "nothing", x.draw(0, 0, 1, 0, 0), NULL);
        due(29, "nothing, of any lane and CELL", x.draw(0, 0, 3, 2, -9), NULL);
        due(29, "CAST", x.draw(0, 0, 0, 1, 0), CAST);
        due(29, "CAST ahead of INDEX", x.draw(0, 0, 0, 2, 99), CAST);
        for (int f : new int[] {-1, 2, 5, LEAST, MOST, MOST - 2}) {
            due(29, "INDEX of " + f, x.draw(0, 0, 0, 0, f), INDEX);
        }
        x.lay(0, 3, -1);
        due(29, "CELL 3 of 0", x.draw(0, 0, 0, 0, 0), -23);
        due(29, "CELL 3 of 1", x.draw(0, 0, 0, 0, 1), -22);
        due(29, "CELL 3 ahead of INDEX", x.draw(0, 0, 0, 0, 3), -20);
        due(29, "INDEX ahead of CELL 3", x.draw(0, 0, 0, 0, -1), INDEX);
        x.lay(0, 1, -2);
        due(29, "the first met", x.draw(0, 0, 0, 0, 0), -21);
        for (int j = 0; j < 4; j++) {
            due(29, "none changed", x.weight(0, j, 0), j + 1);
        }
        x.sheet(2, 2, 8);
        x.lay(2, 3, 1001);
        due(29, "a WEIGHT of 1001", x.draw(0, 0, 2, 2, 0), -23);
        x.lay(2, 3, 101);
        bet(x, 0, 1, 2, 3, 4);
        due(29, "a STAKE of 101", x.draw(0, 1, 2, 2, 1), -22);
        x.lay(2, 3, -101);
        due(29, "a STAKE of -101", x.draw(0, 1, 2, 2, 2), -21);
        for (int j = 0; j < 4; j++) {
            due(29, "none changed", x.stake(0, j, 0), j + 1);
        }
        x.looks(3);
        x.put(7);
        x.lay(2, 3, 0);
        x.lay(2, 7, MOST);
        due(29, "the eighth CELL", x.draw(0, 0, 2, 2, 0), -27);
    }

    private static void count() {
        LooksTogether x = with(5, 3, 7);
        weigh(x, 0, 1, 0, 5, 0);
        weigh(x, 1, 0, 0, 0, 0, 0, 0, 0, 1000);
        x.ray(1, 2, 3);
        x.ray(1, 2, 4);
        x.ray(1, 2, 5);
        x.sheet(1, 0, 9);
        due(30, "n", x.count(0), 5);
        due(30, "SETS", x.count(1), 2);
        due(30, "RAYS", x.count(2), 3);
        due(30, "JOINTS", x.count(3), 3);
        x.put(1);
        x.weight(2, 0, 1);
        due(30, "JOINTS, each once", x.count(3), 4);
        x.drop();
        due(30, "CELLS: nothing", x.count(4), NONE);
        x.sheet(0, 1, 7);
        due(30, "CELLS", x.count(4), 7);
        x.drop();
        due(30, "JOINTS of the SETS that there are", x.count(3), 2);
        for (int wrong : new int[] {-1, 5, LEAST, MOST}) {
            due(30, "count(" + wrong + ")", x.count(wrong), BAD);
        }
    }

    /** As many SETS as there may be, of three LOOKS each: every row inside the object is full. */
    private static void fullTable() {
        LooksTogether x = with(4, 7, 11, 13, 14, 3, 5, 6, 9);
        due(20, "mix", x.mix(1 << 15), 1);
        due(10, "full", x.agrees(), 1);
        due(11, "full", x.quarrel(), NONE);
        due(12, "full", x.possible(1), 15);
        due(13, "full", x.lost(0), 0);
        x.weight(7, 2, 1);
        due(13, "full: the last SET", x.lost(1), 8 * 7 + 2);
        due(11, "full: the last SET", x.quarrel(), 7);
        x.weight(7, 2, 0);
        x.stake(7, 3, 4);
        due(14, "full", x.bound(), 4);
        due(15, "full", x.best(), 9);
        due(16, "full", x.worth(), 4);
        due(17, "full", x.beyond(), 0);
        due(18, "full", x.parted(), 1);
        due(19, "full", x.part(0), 15);
        due(19, "full", x.part(NONE), 16);
        for (int c = 0; c < 8; c++) {
            x.parity(c, c == 6 ? 1 : 0);
        }
        due(21, "full", x.fulfil(), 0);
        due(22, "full: SETS 1, 2, 6, not 4, 5, 6", x.proof(), 2 + 4 + 64);
        due(30, "full", x.count(3), 8);
    }

    private static void fullRays() {
        LooksTogether x = new LooksTogether();
        int[][] rays = {{1, 0, 0}, {0, 1, 0}, {0, 0, 1}, {0, 1, 1}, {0, 1, -1}, {0, 1, 2}, {0, 2, -1}, {0, 1, 3},
            {0, 3, -1}, {0, 1, 4}, {0, 4, -1}, {0, 5, 1}};
        for (int[] r : rays) {
            x.ray(r[0], r[1], r[2]);
        }
        due(25, "the first to all others", x.square(0), 4094);
        due(25, "the last to the first", x.square(11), 1);
        // The first alone; else one of each of the five pairs, and the last or not.
        dueColours(x, "twelve, all SQUARE to the first", new int[] {11 + 5, 5, 1 + 2 * 32, 1, 6});
    }
}
