import java.util.Random;

/** Long runs of chosen calls (always the same ones), each answer held against the Model's. */
public final class ModelTest {
    private static final int RUNS = 1500;
    private static final int CALLS_OF_A_RUN = 512;
    private static int wrong = 0;

    private final Random random;
    private final CallRoom room = new CallRoom();
    private final Model model = new Model();
    private final StringBuilder told = new StringBuilder();
    private final int seed;
    private final int pace;
    private final int spread;
    private int helpers;
    private int calls;

    private ModelTest(int seed) {
        this.seed = seed;
        random = new Random(seed);
        pace = 1 + random.nextInt(random.nextBoolean() ? 5 : 60);
        spread = 1 + random.nextInt(4);
    }

    public static void main(String[] args) {
        int runs = args.length > 0 ? Integer.parseInt(args[0]) : RUNS;
        for (int seed = 1; seed <= runs && wrong < 5; seed++) {
            new ModelTest(seed).run();
        }
        System.out.println(wrong == 0 ? "all answers are as the model's" : wrong + " runs are not as the model's");
        if (wrong != 0) System.exit(1);
    }

    private void run() {
        boolean full = seed % 5 == 0;
        int first = full ? 10 : random.nextInt(10);
        boolean same = true;
        int made = 0;
        for (int i = 0; i < first && same; i++, made++) {
            same = aHelper();
        }
        for (int h = 0; h < first && full && same; h++, made++) {
            same = same(room.duty(h), model.duty(h), "duty", h);
        }
        for (int i = 0; i < 205 && full && same; i++, made++) {
            same = aCall();
        }
        for (; made < CALLS_OF_A_RUN && same; made++) {
            same = step();
        }
        if (!same) {
            wrong++;
            System.out.println("seed " + seed + ": " + told);
        }
    }

    private int few(int n) {
        return random.nextInt(n);
    }

    private int number(int least, int most, int usual) {
        switch (few(60)) {
            case 0: return least - 1;
            case 1: return most + 1;
            case 2: return least;
            case 3: return most;
            case 4: return random.nextInt();
            default: return least + few(Math.max(1, usual));
        }
    }

    private int someHelper() {
        return few(40) == 0 ? number(0, helpers - 1, helpers) : few(Math.max(1, helpers));
    }

    private int someCall() {
        if (few(40) == 0) return number(0, calls - 1, calls);
        return few(3) > 0 ? Math.max(0, calls - 1 - few(12)) : few(Math.max(1, calls));
    }

    private int someSort() {
        return few(60) == 0 ? number(0, 3, 4) : few(spread);
    }

    private boolean same(int got, int due, String name, int... arguments) {
        StringBuilder call = new StringBuilder(name).append('(');
        for (int i = 0; i < arguments.length; i++) {
            call.append(i > 0 ? ", " : "").append(arguments[i]);
        }
        told.append(call).append(")=").append(got).append(' ');
        if (got != due) told.append(" <- due is ").append(due);
        return got == due;
    }

    private boolean step() {
        int pick = few(100);
        if (pick < 3) return aHelper();
        if (pick < 24) return aHelperDoes(pick);
        if (pick < 40) return aCall();
        if (pick < 56) return aCallDoes(pick);
        if (pick < 70) return someTicks();
        if (pick < 88) return aQuestion(pick);
        return pick < 98 ? aLook() : aTable();
    }

    private boolean aHelper() {
        int grades = few(30) == 0 ? number(0, 255, 256) : few(256);
        int got = room.helper(grades);
        if (got >= 0) helpers++;
        return same(got, model.helper(grades), "helper", grades);
    }

    private boolean aHelperDoes(int pick) {
        int h = someHelper();
        int n = number(1, 5000, pace);
        if (pick < 7) {
            int sort = someSort();
            int g = few(20) == 0 ? number(0, 3, 4) : few(4);
            return same(room.grade(h, sort, g), model.grade(h, sort, g), "grade", h, sort, g);
        }
        if (pick < 18) return same(room.duty(h), model.duty(h), "duty", h);
        if (pick < 20) return same(room.out(h), model.out(h), "out", h);
        return same(room.pause(h, n), model.pause(h, n), "pause", h, n);
    }

    private boolean aCall() {
        int kind = few(40) == 0 ? number(0, 3, 4) : few(4);
        int sort = someSort();
        int length = number(1, 1000, 3 * pace);
        int patience = number(0, 5000, 8 * pace);
        int own = someHelper();
        int got = room.call(kind, sort, length, patience, own);
        if (got >= 0) calls++;
        return same(got, model.call(kind, sort, length, patience, own), "call", kind, sort, length, patience, own);
    }

    private boolean aCallDoes(int pick) {
        int c = someCall();
        int n = number(1, 5000, pace);
        int r = number(0, 3, 4);
        int p = number(0, 1000, 2 * pace);
        int sort = someSort();
        int length = number(1, 1000, 3 * pace);
        if (pick < 42) return same(room.rule(r), model.rule(r), "rule", r);
        if (pick < 44) return same(room.prefer(p), model.prefer(p), "prefer", p);
        if (pick < 47) return same(room.ring(c, n), model.ring(c, n), "ring", c, n);
        if (pick < 51) return same(room.pass(c, sort, length), model.pass(c, sort, length), "pass", c, sort, length);
        if (pick < 53) return same(room.leave(c), model.leave(c), "leave", c);
        return same(room.urge(c), model.urge(c), "urge", c);
    }

    private boolean someTicks() {
        int n = few(80) == 0 ? number(1, 20000, 2000) : 1 + few(few(8) == 0 ? 10 * pace : pace);
        return same(room.ticks(n), model.ticks(n), "ticks", n);
    }

    private boolean aQuestion(int pick) {
        int c = someCall();
        int n = number(0, 100, pace);
        if (pick < 75) return same(room.wait(c), model.wait(c), "wait", c);
        if (pick < 80) return same(room.who(c), model.who(c), "who", c);
        if (pick < 86) return same(room.why(c), model.why(c), "why", c);
        return same(room.within(n), model.within(n), "within", n);
    }

    private boolean aLook() {
        int h = someHelper();
        int c = someCall();
        int what = few(30) == 0 ? number(0, 17, 20) : few(17);
        switch (few(3)) {
            case 0: return same(room.helperOf(h, what), model.helperOf(h, what), "helperOf", h, what);
            case 1: return same(room.callOf(c, what), model.callOf(c, what), "callOf", c, what);
            default: return same(room.count(what), model.count(what), "count", what);
        }
    }

    private boolean aTable() {
        int load = number(0, 10000, 10001);
        int n = number(0, 200, 201);
        int part = number(0, 1048576, 30000);
        int quarter = number(0, 15, 16);
        int want = number(0, 50, 9);
        int length = number(1, 16, 16);
        switch (few(6)) {
            case 0: return same(room.loss(load, n), model.loss(load, n), "loss", load, n);
            case 1: return same(room.wanted(load, part), model.wanted(load, part), "wanted", load, part);
            case 2: return same(room.cover(length), model.cover(length), "cover", length);
            case 3: return same(room.begins(quarter), model.begins(quarter), "begins", quarter);
            default: return same(room.want(quarter, want), model.want(quarter, want), "want", quarter, want);
        }
    }
}
