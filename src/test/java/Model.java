import java.math.BigInteger;
import java.util.ArrayList;
import java.util.Arrays;
import java.util.List;

/**
 * A second room, written from the document's words alone and as literally as can be: tick by tick, every
 * question asked anew, trials on whole copies. ModelTest holds the class against it.
 */
final class Model {
    static final class H {
        int[] grade = new int[4];
        int does;
        int since;
        int done;
        int busy;
        int over = -9;

        H copy() {
            H h = new H();
            h.grade = grade.clone();
            h.does = does;
            h.since = since;
            h.done = done;
            h.busy = busy;
            h.over = over;
            return h;
        }
    }

    static final class C {
        int is;
        int kind;
        int sort;
        int length;
        int patience;
        int came;
        int own = -9;
        int helper = -9;
        int waitingSince;
        int first = -9;
        int last = -9;
        int end = -9;
        int ring = -9;

        C copy() {
            C c = new C();
            c.is = is;
            c.kind = kind;
            c.sort = sort;
            c.length = length;
            c.patience = patience;
            c.came = came;
            c.own = own;
            c.helper = helper;
            c.waitingSince = waitingSince;
            c.first = first;
            c.last = last;
            c.end = end;
            c.ring = ring;
            return c;
        }
    }

    private final List<H> helpers = new ArrayList<>();
    private final List<C> calls = new ArrayList<>();
    private int tick;
    private int rule;
    private int prefer = 20;
    private final int[] wants = new int[16];
    private int[] begun = new int[16];
    private final int[] refusals = new int[7];

    private Model copy() {
        Model m = new Model();
        for (H h : helpers) {
            m.helpers.add(h.copy());
        }
        for (C c : calls) {
            m.calls.add(c.copy());
        }
        m.tick = tick;
        m.rule = rule;
        m.prefer = prefer;
        return m;
    }

    private int no(int code) {
        refusals[-code]++;
        return code;
    }

    private boolean isH(int h) {
        return 0 <= h && h < helpers.size();
    }

    private boolean isC(int c) {
        return 0 <= c && c < calls.size();
    }

    private boolean isSort(int s) {
        return 0 <= s && s <= 3;
    }

    int helper(int grades) {
        if (grades < 0) return no(-4);
        if (grades > 255) return no(-6);
        if (helpers.size() == 10) return no(-6);
        H h = new H();
        for (int s = 0; s < 4; s++) {
            h.grade[s] = grades % 4;
            grades /= 4;
        }
        h.since = tick;
        helpers.add(h);
        return helpers.size() - 1;
    }

    int grade(int helper, int sort, int g) {
        if (!isH(helper)) return no(-1);
        if (!isSort(sort)) return no(-1);
        if (g < 0) return no(-4);
        if (g > 3) return no(-6);
        int was = helpers.get(helper).grade[sort];
        helpers.get(helper).grade[sort] = g;
        return was;
    }

    int duty(int helper) {
        if (!isH(helper)) return no(-1);
        H h = helpers.get(helper);
        if (h.does != 0) return no(-2);
        h.does = 1;
        h.since = tick;
        return 1;
    }

    int out(int helper) {
        if (!isH(helper)) return no(-1);
        H h = helpers.get(helper);
        if (h.does == 0 || h.does == 2) return no(-2);
        h.does = 0;
        h.over = -9;
        h.since = tick;
        return 1;
    }

    int pause(int helper, int n) {
        if (!isH(helper)) return no(-1);
        H h = helpers.get(helper);
        if (h.does != 1) return no(-2);
        if (n < 1) return no(-4);
        if (n > 5000) return no(-6);
        h.does = 3;
        h.since = tick;
        h.over = tick + n;
        return h.over;
    }

    int call(int kind, int sort, int length, int patience, int own) {
        if (kind < 0 || kind > 3) return no(-1);
        if (!isSort(sort)) return no(-1);
        if (kind == 1 && !isH(own)) return no(-1);
        if (length < 1) return no(-4);
        if (patience < 0) return no(-4);
        if (length > 1000) return no(-6);
        if (patience > 5000) return no(-6);
        if (calls.size() == 200) return no(-6);
        C c = new C();
        c.kind = kind;
        c.sort = sort;
        c.length = length;
        c.patience = patience;
        c.came = tick;
        c.waitingSince = tick;
        if (kind == 1) c.own = own;
        calls.add(c);
        return calls.size() - 1;
    }

    int rule(int r) {
        if (r < 0 || r > 3) return no(-1);
        int was = rule;
        rule = r;
        return was;
    }

    int prefer(int n) {
        if (n < 0) return no(-4);
        if (n > 1000) return no(-6);
        int was = prefer;
        prefer = n;
        return was;
    }

    int ring(int call, int n) {
        if (!isC(call)) return no(-1);
        C c = calls.get(call);
        if (c.is != 0) return no(-2);
        if (n < 1) return no(-4);
        if (n > 5000) return no(-6);
        c.is = 4;
        c.ring = tick + n;
        return c.ring;
    }

    int pass(int call, int sort, int length) {
        if (!isC(call)) return no(-1);
        if (!isSort(sort)) return no(-1);
        C c = calls.get(call);
        if (c.is != 1) return no(-2);
        if (length < 1) return no(-4);
        if (length > 1000) return no(-6);
        int was = c.helper;
        c.is = 0;
        c.helper = -9;
        c.end = -9;
        c.sort = sort;
        c.length = length;
        c.waitingSince = tick;
        changed(was);
        return was;
    }

    int leave(int call) {
        if (!isC(call)) return no(-1);
        C c = calls.get(call);
        if (c.is != 0 && c.is != 4) return no(-2);
        c.is = 3;
        c.ring = -9;
        return 1;
    }

    int urge(int call) {
        if (!isC(call)) return no(-1);
        C c = calls.get(call);
        if (c.is != 0 || c.kind == 2 || c.kind == 3) return no(-2);
        c.kind = 2;
        c.own = -9;
        return 1;
    }

    int ticks(int n) {
        if (n < 1) return no(-4);
        if ((long) tick + n > 20000) return no(-6);
        int before = number(2);
        for (int i = 0; i < n; i++) {
            pass();
        }
        return number(2) - before;
    }

    int wait(int call) {
        if (!isC(call)) return no(-1);
        if (calls.get(call).is != 0) return no(-2);
        Model m = copy();
        for (int i = 1; i <= 1000; i++) {
            m.pass();
            if (m.calls.get(call).is == 1) return i;
            if (m.calls.get(call).is == 3) return -8;
        }
        return -9;
    }

    int who(int call) {
        if (!isC(call)) return no(-1);
        if (calls.get(call).is != 0) return no(-2);
        Model m = copy();
        m.giving();
        return m.calls.get(call).helper;
    }

    int why(int call) {
        if (!isC(call)) return no(-1);
        C c = calls.get(call);
        if (c.is != 0) return no(-2);
        Model m = copy();
        m.giving();
        if (m.calls.get(call).is == 1) return 0;
        List<Integer> able = new ArrayList<>();
        for (int h = 0; h < helpers.size(); h++) {
            if (helpers.get(h).does != 0 && helpers.get(h).grade[c.sort] > 0) able.add(h);
        }
        if (able.isEmpty()) return 1;
        able.removeIf(h -> helpers.get(h).does != 1 && !(c.kind == 3 && writesWithRoom(h)));
        if (able.isEmpty()) return 2;
        able.removeIf(h -> !may(h, c));
        return able.isEmpty() ? 3 : 4;
    }

    int within(int n) {
        if (n < 0) return no(-4);
        return (int) calls.stream().filter(c -> c.first != -9 && c.first <= n).count();
    }

    int loss(int load, int n) {
        if (load < 0 || n < 0) return no(-4);
        if (load > 10000 || n > 200) return no(-6);
        return lossOf(load, n).intValueExact();
    }

    int wanted(int load, int part) {
        if (load < 0 || part < 0) return no(-4);
        if (load > 10000 || part > 1048576) return no(-6);
        for (int n = 0; n <= 200; n++) {
            if (lossOf(load, n).intValueExact() <= part) return n;
        }
        return -9;
    }

    private static BigInteger lossOf(int load, int n) {
        BigInteger whole = BigInteger.valueOf(1048576);
        BigInteger loss = whole;
        for (int k = 1; k <= n; k++) {
            BigInteger up = BigInteger.valueOf(load).multiply(loss);
            BigInteger down = BigInteger.valueOf(100).multiply(BigInteger.valueOf(k)).multiply(whole).add(up);
            loss = up.multiply(whole).divide(down);
        }
        return loss;
    }

    int want(int quarter, int n) {
        if (quarter < 0 || quarter > 15) return no(-1);
        if (n < 0) return no(-4);
        if (n > 50) return no(-6);
        int was = wants[quarter];
        wants[quarter] = n;
        return was;
    }

    int cover(int length) {
        if (length < 1) return no(-4);
        if (length > 16) return no(-6);
        begun = fewestAndLatest(length);
        return Arrays.stream(begun).sum();
    }

    /**
     * By shifting: one shift after another is begun or put later while all stays covered. Up to each quarter
     * the number that must have begun is at least what some quarter asks above those begun too early for it.
     */
    private int[] fewestAndLatest(int length) {
        int places = 17 - length;
        int[] upTo = new int[places];
        boolean moved = true;
        while (moved) {
            moved = false;
            for (int q = 0; q < 16; q++) {
                int last = Math.min(q, places - 1);
                int early = q - length >= 0 ? upTo[q - length] : 0;
                if (upTo[last] - early < wants[q]) {
                    upTo[last]++;
                    moved = true;
                }
                for (int p = 1; p < places; p++) {
                    if (upTo[p] < upTo[p - 1]) {
                        upTo[p] = upTo[p - 1];
                        moved = true;
                    }
                }
            }
        }
        int[] begins = new int[16];
        for (int p = 0; p < places; p++) {
            begins[p] = upTo[p] - (p > 0 ? upTo[p - 1] : 0);
        }
        return begins;
    }

    int begins(int quarter) {
        if (quarter < 0 || quarter > 15) return no(-1);
        return begun[quarter];
    }

    int helperOf(int helper, int what) {
        if (!isH(helper)) return no(-1);
        H h = helpers.get(helper);
        List<Integer> has = callsOf(helper);
        if (what == 0) return h.does;
        if (what == 1) return has.size();
        if (what == 2) return has.isEmpty() ? -9 : has.get(0);
        if (what == 3) return h.since;
        if (what == 4) return h.done;
        if (what == 5) return h.busy;
        if (what == 6) return h.over;
        if (what >= 10 && what <= 13) return h.grade[what - 10];
        return -9;
    }

    int callOf(int call, int what) {
        if (!isC(call)) return no(-1);
        C c = calls.get(call);
        if (what == 0) return c.is;
        if (what == 1) return c.kind;
        if (what == 2) return c.sort;
        if (what == 3) return c.length;
        if (what == 4) return c.patience;
        if (what == 5) return c.came;
        if (what == 6) return c.is == 1 || c.is == 2 ? c.helper : -9;
        if (what == 7) return c.is == 0 ? tick - c.waitingSince : c.last;
        if (what == 8) return c.is == 1 ? c.end : c.is == 4 ? c.ring : -9;
        if (what == 9) return c.own;
        return -9;
    }

    int count(int what) {
        if (what == 0) return tick;
        if (what == 1) return helpers.size();
        if (what == 2) return calls.size();
        if (what >= 3 && what <= 7) return number(what - 3);
        if (what == 8) return (int) helpers.stream().filter(h -> h.does == 1).count();
        if (what >= 11 && what <= 16) return refusals[what - 10];
        return -9;
    }

    private int number(int is) {
        return (int) calls.stream().filter(c -> c.is == is).count();
    }

    private List<Integer> callsOf(int h) {
        List<Integer> has = new ArrayList<>();
        for (int c = 0; c < calls.size(); c++) {
            if (calls.get(c).is == 1 && calls.get(c).helper == h) has.add(c);
        }
        return has;
    }

    private void changed(int helper) {
        H h = helpers.get(helper);
        h.does = callsOf(helper).isEmpty() ? 1 : 2;
        h.since = tick;
    }

    private void pass() {
        for (H h : helpers) {
            if (h.does == 2) h.busy++;
        }
        tick++;
        for (C c : calls) {
            if (c.is == 1 && c.end == tick) {
                c.is = 2;
                helpers.get(c.helper).done++;
                changed(c.helper);
            }
        }
        for (H h : helpers) {
            if (h.does == 3 && h.over == tick) {
                h.does = 1;
                h.over = -9;
                h.since = tick;
            }
        }
        for (C c : calls) {
            if (c.is == 4 && c.ring == tick) {
                c.is = 0;
                c.ring = -9;
                c.waitingSince = tick;
            }
        }
        for (C c : calls) {
            if (c.is == 0 && tick - c.waitingSince > c.patience) c.is = 3;
        }
        giving();
    }

    private boolean writesWithRoom(int h) {
        List<Integer> has = callsOf(h);
        return !has.isEmpty() && has.size() < 3 && has.stream().allMatch(c -> calls.get(c).kind == 3);
    }

    private boolean may(int h, C c) {
        if (c.is != 0 || helpers.get(h).grade[c.sort] == 0) return false;
        boolean can = helpers.get(h).does == 1 || c.kind == 3 && writesWithRoom(h);
        boolean keeps = c.kind == 1 && tick - c.waitingSince < prefer && c.own != h;
        return can && !keeps;
    }

    private void giving() {
        while (true) {
            List<C> open = new ArrayList<>();
            for (C c : calls) {
                for (int h = 0; h < helpers.size(); h++) {
                    if (may(h, c)) {
                        open.add(c);
                        break;
                    }
                }
            }
            if (open.isEmpty()) return;
            open.sort((a, b) -> Integer.compare(key(a), key(b)));
            give(open.get(0));
        }
    }

    private int key(C c) {
        if (rule == 1) return c.kind == 2 ? 0 : 1;
        if (rule == 2) return (int) helpers.stream().filter(h -> h.does == 1 && h.grade[c.sort] > 0).count();
        if (rule == 3) return c.patience - (tick - c.waitingSince);
        return 0;
    }

    private void give(C c) {
        List<Integer> takers = new ArrayList<>();
        for (int h = 0; h < helpers.size(); h++) {
            if (may(h, c)) takers.add(h);
        }
        takers.sort((a, b) -> {
            H x = helpers.get(a);
            H y = helpers.get(b);
            if (x.grade[c.sort] != y.grade[c.sort]) return y.grade[c.sort] - x.grade[c.sort];
            long p = Arrays.stream(x.grade).filter(g -> g > 0).count();
            long q = Arrays.stream(y.grade).filter(g -> g > 0).count();
            if (p != q) return Long.compare(p, q);
            if (x.does != y.does) return x.does - y.does;
            return x.since - y.since;
        });
        int h = takers.contains(c.own) ? c.own : takers.get(0);
        c.is = 1;
        c.helper = h;
        c.last = tick - c.waitingSince;
        if (c.first == -9) c.first = c.last;
        c.end = tick + (int) Math.ceil(c.length * (5 - helpers.get(h).grade[c.sort]) / 4.0);
        changed(h);
    }
}
