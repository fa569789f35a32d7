import java.util.Arrays;

/** Long runs of made-up calls, each answered by the class and by the plain model. */
public final class ModelTest {
    private static final String[] NAMES = {
        "looks", "put", "drop", "told", "weight", "stake", "parity", "joint", "agrees", "quarrel", "possible", "lost",
        "bound", "best", "worth", "beyond", "parted", "part", "mix", "fulfil", "proof", "ray", "cut", "square",
        "colours", "sheet", "lay", "draw", "count"};
    private static final int[] EDGES = {
        Integer.MIN_VALUE, Integer.MIN_VALUE + 1, -1001, -1000, -101, -100, -6, -5, -4, -3, -2, -1, 0, 1, 2, 3, 4, 5,
        6, 7, 8, 9, 15, 16, 31, 32, 63, 64, 65, 100, 101, 127, 128, 255, 256, 1000, 1001, 32767, 32768, 65535, 65536,
        Integer.MAX_VALUE - 1, Integer.MAX_VALUE};
    private static final int CALLS = 512, RUNS = 400, DEAREST_STEP = 190;

    private final Check check;
    private long seed;
    private int run;
    private int made;
    private LooksTogether program;
    private Model model;
    private int spent;
    private int unparted;
    private int beyond;

    private ModelTest(Check check) {
        this.check = check;
    }

    public static void main(String[] args) {
        ModelTest test = new ModelTest(new Check("model"));
        for (int run = 0; run < RUNS; run++) {
            test.oneRun(run);
        }
        // The runs are worth little if they never get to the rare answers.
        System.out.println("SPENT " + test.spent + ", not PARTED " + test.unparted + ", BEYOND " + test.beyond);
        test.check.due("some runs were SPENT", test.spent > 0 ? 1 : 0, 1);
        test.check.due("some tables could not be PARTED", test.unparted > 0 ? 1 : 0, 1);
        test.check.due("some tables were BEYOND", test.beyond > 0 ? 1 : 0, 1);
        test.check.end();
    }

    /** A made-up number, the same in every run of the test. */
    private int below(int many) {
        seed = seed * 6364136223846793005L + 1442695040888963407L;
        return (int) ((seed >>> 33) % many);
    }

    private void oneRun(int number) {
        run = number;
        seed = number * 7919L + 17;
        made = 0;
        program = new LooksTogether();
        model = new Model();
        say("looks", 1 + below(6));
        while (made < CALLS - DEAREST_STEP) {
            switch (below(12)) {
                case 0: hiddenTable(); break;
                case 1: ringTable(); break;
                case 2: raysOrSheets(); break;
                case 3: askTable(); break;
                default: anyCall();
            }
        }
        check.due("run " + run + ": no more calls than promised", made <= CALLS ? 1 : 0, 1);
    }

    private void anyCall() {
        String name = NAMES[below(NAMES.length)];
        if ((name.equals("looks") || name.equals("drop") || name.equals("cut")) && below(3) != 0) {
            return;
        }
        boolean wild = below(8) == 0;
        int[] args = new int[arity(name)];
        for (int i = 0; i < args.length; i++) {
            args[i] = wild ? EDGES[below(EDGES.length)] : usual(name, i);
        }
        say(name, args);
    }

    private int usual(String name, int i) {
        switch (name) {
            case "looks": return 1 + below(6);
            case "put": return below(64);
            case "told": return i == 0 ? below(9) : below(5);
            case "weight": return i < 2 ? below(8) : below(2) * below(10);
            case "stake": return i < 2 ? below(8) : below(21) - 10;
            case "parity": return i == 0 ? below(8) : below(3) == 0 ? -4 : below(2);
            case "joint": return i == 0 ? below(8) : below(64);
            case "mix": return below(5) == 0 ? below(65536) : below(65536) & below(65536) & below(65536);
            case "part": return below(26) - 4;
            case "ray": return below(3) == 0 ? below(11) - 5 : below(3) - 1;
            case "square": return below(13);
            case "sheet": return i == 0 ? below(4) : i == 1 ? below(3) : below(70) - 3;
            case "lay": return i == 0 ? below(4) : i == 1 ? below(30) : below(70000) - 300;
            case "draw": return new int[] {below(8), below(2), below(4), below(3), below(30)}[i];
            default: return below(6);
        }
    }

    /** SETS whose WEIGHTS are of HIDDEN, some of them turned so that they AGREE still. */
    private void hiddenTable() {
        if (below(2) == 0) {
            say("looks", 2 + below(5));
        }
        for (int i = below(6); i >= 0; i--) {
            say("put", (1 << below(6)) | (1 << below(6)) | (below(3) == 0 ? 1 << below(6) : 0));
        }
        int hiddens = 1 << ask("count", 0);
        int[] hidden = new int[1 + below(25)];
        for (int i = 0; i < hidden.length; i++) {
            hidden[i] = below(hiddens);
        }
        weigh(hidden, below(2) == 0);
        askTable();
    }

    /** SETS of two in a ring, HIDDEN and its opposite, some SETS turned: often BEYOND. */
    private void ringTable() {
        int n = 3 + below(4);
        say("looks", n);
        for (int look = 0; look < n; look++) {
            say("put", 1 << look | 1 << (look + 1) % n);
        }
        int[] hidden = new int[2 * (1 + below(12))];
        int h = below(1 << n);
        for (int i = 0; i < hidden.length; i++) {
            hidden[i] = i % 2 == 0 ? h : (1 << n) - 1 - h;
        }
        weigh(hidden, true);
        askTable();
    }

    private void weigh(int[] hidden, boolean withStakes) {
        for (int c = 0; c < ask("count", 1); c++) {
            int looks = ask("told", c, 1);
            int[] weights = new int[8];
            for (int h : hidden) {
                weights[ask("joint", c, h)]++;
            }
            turn(weights, looks);
            for (int j = 0; j < 1 << looks; j++) {
                say("weight", c, j, weights[j]);
                if (withStakes) {
                    say("stake", c, j, weights[j] > 0 ? 1 : 0);
                }
            }
        }
    }

    private void turn(int[] weights, int looks) {
        int from = below(2) == 0 ? 0 : 1;
        if (looks == 2 && below(2) == 0) {
            int by = Math.min(weights[from], weights[3 - from]);
            weights[from] -= by;
            weights[3 - from] -= by;
            weights[1 - from] += by;
            weights[2 + from] += by;
        }
    }

    private void askTable() {
        for (String name : new String[] {"agrees", "quarrel", "bound", "best", "worth", "parted", "fulfil", "proof"}) {
            int got = say(name);
            if (name.equals("parted")) {
                spent += got == LooksTogether.SPENT ? 1 : 0;
                unparted += got == 0 ? 1 : 0;
            }
        }
        beyond += say("beyond") == 1 ? 1 : 0;
        for (int what = 0; what < 2; what++) {
            say("possible", what);
            say("lost", what);
        }
        say("part", LooksTogether.NONE);
        for (int i = below(4); i < 26; i += 1 + below(6)) {
            say("part", i);
        }
    }

    private void raysOrSheets() {
        if (below(2) == 0) {
            for (int i = below(6); i >= 0; i--) {
                say("ray", below(3) - 1, below(3) - 1, below(3) - 1);
            }
            for (int what = 0; what < 5; what++) {
                say("colours", what);
            }
            return;
        }
        int k = below(4);
        int lane = below(3);
        say("sheet", k, lane, 8 + below(8));
        for (int i = 0; i < 8; i++) {
            say("lay", k, i, below(12) == 0 ? EDGES[below(EDGES.length)] : below(90));
        }
        say("draw", below(4), below(2), k, below(6) == 0 ? below(3) : lane, below(6) - 1);
    }

    private int say(String name, int... args) {
        made++;
        int got = call(name, args);
        check.due("run " + run + ": " + name + Arrays.toString(args), got, model.call(name, args));
        return got;
    }

    /** What the model answers, to make up the next calls by; the class is not called. */
    private int ask(String name, int... args) {
        return model.call(name, args);
    }

    private static int arity(String name) {
        switch (name) {
            case "told": case "parity": case "joint": return 2;
            case "weight": case "stake": case "ray": case "sheet": case "lay": return 3;
            case "draw": return 5;
            case "looks": case "put": case "possible": case "lost": case "part": case "mix": case "square":
            case "colours": case "count": return 1;
            default: return 0;
        }
    }

    private int call(String name, int[] a) {
        LooksTogether x = program;
        switch (name) {
            case "looks": return x.looks(a[0]);
            case "put": return x.put(a[0]);
            case "drop": return x.drop();
            case "told": return x.told(a[0], a[1]);
            case "weight": return x.weight(a[0], a[1], a[2]);
            case "stake": return x.stake(a[0], a[1], a[2]);
            case "parity": return x.parity(a[0], a[1]);
            case "joint": return x.joint(a[0], a[1]);
            case "agrees": return x.agrees();
            case "quarrel": return x.quarrel();
            case "possible": return x.possible(a[0]);
            case "lost": return x.lost(a[0]);
            case "bound": return x.bound();
            case "best": return x.best();
            case "worth": return x.worth();
            case "beyond": return x.beyond();
            case "parted": return x.parted();
            case "part": return x.part(a[0]);
            case "mix": return x.mix(a[0]);
            case "fulfil": return x.fulfil();
            case "proof": return x.proof();
            case "ray": return x.ray(a[0], a[1], a[2]);
            case "cut": return x.cut();
            case "square": return x.square(a[0]);
            case "colours": return x.colours(a[0]);
            case "sheet": return x.sheet(a[0], a[1], a[2]);
            case "lay": return x.lay(a[0], a[1], a[2]);
            case "draw": return x.draw(a[0], a[1], a[2], a[3], a[4]);
            case "count": return x.count(a[0]);
            default: throw new IllegalArgumentException(name);
        }
    }
}
