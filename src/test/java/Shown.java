/**
 * All that calls can show of an object, as one text: two objects are alike if they show the same.
 * The asking uses the object up; what is laid out below changes it only after it has been asked.
 */
final class Shown {
    /** What is left of an object's 512 calls must do for the calls that made it. */
    static final int CALLS_MOST = 440;

    private final LooksTogether x;
    private final StringBuilder text = new StringBuilder();
    private int calls = 0;

    private Shown(LooksTogether x) {
        this.x = x;
    }

    static String of(LooksTogether x) {
        Shown shown = new Shown(x);
        shown.table();
        shown.rays();
        shown.sets();
        shown.cutAndDropAll();
        shown.sheets();
        if (shown.calls > CALLS_MOST) {
            throw new IllegalStateException("too many calls to be promised: " + shown.calls);
        }
        return shown.text.toString();
    }

    private int add(String call, int answer) {
        calls++;
        text.append(call).append(' ').append(answer).append('\n');
        return answer;
    }

    private void table() {
        for (int what = 0; what < 5; what++) {
            add("count " + what, x.count(what));
        }
        add("agrees", x.agrees());
        add("quarrel", x.quarrel());
        add("possible 0", x.possible(0));
        add("possible 1", x.possible(1));
        add("lost 0", x.lost(0));
        add("lost 1", x.lost(1));
        add("bound", x.bound());
        add("best", x.best());
        add("worth", x.worth());
        add("beyond", x.beyond());
        add("fulfil", x.fulfil());
        add("proof", x.proof());
        boolean row = add("parted", x.parted()) == 1;
        add("part NONE", x.part(LooksTogether.NONE));
        for (int i = 0; row && i <= 24; i++) {
            row = add("part " + i, x.part(i)) >= 0;
        }
    }

    private void rays() {
        for (int what = 0; what < 5; what++) {
            add("colours " + what, x.colours(what));
        }
        for (int r = 0; r < 12; r++) {
            add("square " + r, x.square(r));
        }
    }

    private void sets() {
        for (int c = 0; c < x.count(1); c++) {
            calls++;
            add("looks of " + c, x.told(c, 0));
            int joints = 1 << add("how many of " + c, x.told(c, 1));
            add("parity of " + c, x.told(c, 3));
            for (int j = 0; j < joints; j++) {
                add("weight " + c + " " + j, x.weight(c, j, 0));
                add("stake " + c + " " + j, x.stake(c, j, 0));
            }
        }
    }

    private void cutAndDropAll() {
        for (int i = 0; i < 13 && add("cut", x.cut()) >= 0; i++) {
            add("RAYS", x.count(2));
        }
        for (int i = 0; i < 9 && add("drop", x.drop()) >= 0; i++) {
            add("SETS", x.count(1));
        }
    }

    /** A SET of one LOOK reads two CELLS at a time: what lane fits, then CELL by CELL, then how many. */
    private void sheets() {
        x.looks(1);
        x.put(1);
        calls += 2;
        for (int k = 0; k < 4; k++) {
            for (int lane = 0; lane < 3; lane++) {
                int answer = add("draw " + k + " " + lane, x.draw(0, 1, k, lane, 0));
                if (answer != -11 && answer != -13) {
                    cells(k, lane);
                }
            }
        }
    }

    private void cells(int k, int lane) {
        for (int i = 0; i < 64; i += 2) {
            int stakes = add("stakes of " + k + " " + i, x.draw(0, 1, k, lane, i));
            add("weights of " + k + " " + i, x.draw(0, 0, k, lane, i));
            for (int j = 0; j < 2; j++) {
                add("read", x.stake(0, j, 0));
                add("read", x.weight(0, j, 0));
            }
            if (stakes == -12) {
                break;
            }
        }
        boolean there = true;
        for (int i = 0; there && i < 65; i++) {
            there = add("lay " + k + " " + i, x.lay(k, i, 0)) == 1;
        }
    }
}
