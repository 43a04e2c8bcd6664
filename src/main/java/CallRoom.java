/** A room in which callers wait for helpers. The promises are in the document, DOC.md. */
public final class CallRoom {
    private static final int NOBODY = -1;
    private static final int STATE = -2;
    private static final int BELOW = -4;
    private static final int ROOM = -6;
    private static final int HAS_LEFT = -8;
    private static final int NONE = -9;

    private static final int SORTS = 4;
    private static final int KINDS = 4;
    private static final int RULES = 4;
    private static final int QUARTERS = 16;
    private static final int REFUSAL_CODES = 6;

    private static final int MOST_HELPERS = 10;
    private static final int MOST_CALLS = 200;
    private static final int MOST_TOGETHER = 3;
    private static final int MOST_TICKS = 20000;
    private static final int MOST_GRADE = 3;
    private static final int MOST_GRADES = 255;
    private static final int MOST_LENGTH = 1000;
    private static final int MOST_PATIENCE = 5000;
    private static final int MOST_DELAY = 5000;
    private static final int MOST_PREFER = 1000;
    private static final int MOST_LOAD = 10000;
    private static final int MOST_LOSS_HELPERS = 200;
    private static final int MOST_WANT = 50;
    private static final int WAIT_TICKS = 1000;
    private static final int FIRST_PREFER = 20;
    private static final int WHOLE = 1048576;
    private static final int NEVER = 2147483647;

    private static final int OUT = 0;
    private static final int FREE = 1;
    private static final int BUSY = 2;
    private static final int BREAK = 3;

    private static final int KNOWN = 1;
    private static final int URGENT = 2;
    private static final int WRITTEN = 3;

    private static final int WAITING = 0;
    private static final int ON = 1;
    private static final int DONE = 2;
    private static final int LEFT = 3;
    private static final int BACK = 4;

    private static final int URGENT_FIRST = 1;
    private static final int SCARCE_FIRST = 2;
    private static final int SOON_LEAVING_FIRST = 3;

    private final Floor floor;
    private final Floor trial;
    private final Shifts shifts;
    private final int[] refusals;

    public CallRoom() {
        floor = new Floor();
        trial = new Floor();
        shifts = new Shifts();
        refusals = new int[REFUSAL_CODES + 1];
    }

    public int helper(int grades) {
        if (grades < 0) {
            return refuse(BELOW);
        }
        if (grades > MOST_GRADES || floor.helpers.size >= MOST_HELPERS) {
            return refuse(ROOM);
        }
        return floor.helpers.add(grades, floor.tick);
    }

    public int grade(int helper, int sort, int g) {
        if (!floor.helpers.has(helper) || !isSort(sort)) {
            return refuse(NOBODY);
        }
        int wrong = outside(g, 0, MOST_GRADE);
        if (wrong != 0) {
            return refuse(wrong);
        }
        int before = floor.helpers.gradeFor(helper, sort);
        floor.helpers.setGrade(helper, sort, g);
        return before;
    }

    public int duty(int helper) {
        if (!floor.helpers.has(helper)) {
            return refuse(NOBODY);
        }
        if (floor.helpers.doing[helper] != OUT) {
            return refuse(STATE);
        }
        floor.helpers.become(helper, FREE, floor.tick);
        return 1;
    }

    public int out(int helper) {
        if (!floor.helpers.has(helper)) {
            return refuse(NOBODY);
        }
        int doing = floor.helpers.doing[helper];
        if (doing != FREE && doing != BREAK) {
            return refuse(STATE);
        }
        floor.helpers.become(helper, OUT, floor.tick);
        return 1;
    }

    public int pause(int helper, int n) {
        if (!floor.helpers.has(helper)) {
            return refuse(NOBODY);
        }
        if (floor.helpers.doing[helper] != FREE) {
            return refuse(STATE);
        }
        int wrong = outside(n, 1, MOST_DELAY);
        if (wrong != 0) {
            return refuse(wrong);
        }
        floor.helpers.become(helper, BREAK, floor.tick);
        floor.helpers.breakOver[helper] = floor.tick + n;
        return floor.tick + n;
    }

    public int call(int kind, int sort, int length, int patience, int own) {
        boolean ownMissing = kind == KNOWN && !floor.helpers.has(own);
        if (kind < 0 || kind >= KINDS || !isSort(sort) || ownMissing) {
            return refuse(NOBODY);
        }
        if (length < 1 || patience < 0) {
            return refuse(BELOW);
        }
        if (length > MOST_LENGTH || patience > MOST_PATIENCE || floor.calls.size >= MOST_CALLS) {
            return refuse(ROOM);
        }
        int number = floor.calls.add(kind, kind == KNOWN ? own : NONE);
        floor.calls.describe(number, sort, length, patience);
        floor.calls.arrive(number, floor.tick);
        return number;
    }

    public int rule(int r) {
        if (r < 0 || r >= RULES) {
            return refuse(NOBODY);
        }
        int before = floor.rule;
        floor.rule = r;
        return before;
    }

    public int prefer(int n) {
        int wrong = outside(n, 0, MOST_PREFER);
        if (wrong != 0) {
            return refuse(wrong);
        }
        int before = floor.prefer;
        floor.prefer = n;
        return before;
    }

    public int ring(int call, int n) {
        int wrong = notWaiting(call);
        if (wrong == 0) {
            wrong = outside(n, 1, MOST_DELAY);
        }
        if (wrong != 0) {
            return refuse(wrong);
        }
        floor.calls.putBack(call, floor.tick + n);
        return floor.tick + n;
    }

    public int pass(int call, int sort, int length) {
        if (!floor.calls.has(call) || !isSort(sort)) {
            return refuse(NOBODY);
        }
        if (floor.calls.doing[call] != ON) {
            return refuse(STATE);
        }
        int wrong = outside(length, 1, MOST_LENGTH);
        if (wrong != 0) {
            return refuse(wrong);
        }
        int from = floor.calls.helper[call];
        floor.calls.describe(call, sort, length, floor.calls.patience[call]);
        floor.calls.waitAgain(call, floor.tick);
        floor.helpers.letGo(from, floor.tick);
        return from;
    }

    public int leave(int call) {
        if (!floor.calls.has(call)) {
            return refuse(NOBODY);
        }
        int doing = floor.calls.doing[call];
        if (doing != WAITING && doing != BACK) {
            return refuse(STATE);
        }
        floor.calls.doing[call] = LEFT;
        return 1;
    }

    public int urge(int call) {
        int wrong = notWaiting(call);
        if (wrong != 0) {
            return refuse(wrong);
        }
        int kind = floor.calls.kind[call];
        if (kind == URGENT || kind == WRITTEN) {
            return refuse(STATE);
        }
        floor.calls.kind[call] = URGENT;
        floor.calls.own[call] = NONE;
        return 1;
    }

    public int ticks(int n) {
        int wrong = outside(n, 1, MOST_TICKS - floor.tick);
        if (wrong != 0) {
            return refuse(wrong);
        }
        return floor.goOn(n);
    }

    public int wait(int call) {
        int wrong = notWaiting(call);
        if (wrong != 0) {
            return refuse(wrong);
        }
        trial.copyFrom(floor);
        return trial.ticksTillOn(call);
    }

    public int who(int call) {
        int wrong = notWaiting(call);
        if (wrong != 0) {
            return refuse(wrong);
        }
        return helperIfGivenNow(call);
    }

    public int why(int call) {
        int wrong = notWaiting(call);
        if (wrong != 0) {
            return refuse(wrong);
        }
        return helperIfGivenNow(call) >= 0 ? 0 : floor.hindrance(call);
    }

    public int within(int n) {
        if (n < 0) {
            return refuse(BELOW);
        }
        return floor.calls.givenWithin(n);
    }

    public int loss(int load, int n) {
        if (load < 0 || n < 0) {
            return refuse(BELOW);
        }
        if (load > MOST_LOAD || n > MOST_LOSS_HELPERS) {
            return refuse(ROOM);
        }
        long part = WHOLE;
        for (int k = 1; k <= n; k++) {
            part = lossWithOneMore(part, load, k);
        }
        return (int) part;
    }

    public int wanted(int load, int part) {
        if (load < 0 || part < 0) {
            return refuse(BELOW);
        }
        if (load > MOST_LOAD || part > WHOLE) {
            return refuse(ROOM);
        }
        long lost = WHOLE;
        for (int n = 0; n <= MOST_LOSS_HELPERS; n++) {
            if (lost <= part) {
                return n;
            }
            lost = lossWithOneMore(lost, load, n + 1);
        }
        return NONE;
    }

    public int want(int quarter, int n) {
        if (!isQuarter(quarter)) {
            return refuse(NOBODY);
        }
        int wrong = outside(n, 0, MOST_WANT);
        if (wrong != 0) {
            return refuse(wrong);
        }
        int before = shifts.wants[quarter];
        shifts.wants[quarter] = n;
        return before;
    }

    public int cover(int length) {
        int wrong = outside(length, 1, QUARTERS);
        if (wrong != 0) {
            return refuse(wrong);
        }
        return shifts.plan(length);
    }

    public int begins(int quarter) {
        return isQuarter(quarter) ? shifts.beginning[quarter] : refuse(NOBODY);
    }

    public int helperOf(int helper, int what) {
        Helpers all = floor.helpers;
        if (!all.has(helper)) {
            return refuse(NOBODY);
        }
        switch (what) {
            case 0:
                return all.doing[helper];
            case 1:
                return all.held[helper];
            case 2:
                return floor.calls.firstWith(helper);
            case 3:
                return all.since[helper];
            case 4:
                return all.served[helper];
            case 5:
                return all.busyTicks[helper];
            case 6:
                return all.doing[helper] == BREAK ? all.breakOver[helper] : NONE;
            case 10:
            case 11:
            case 12:
            case 13:
                return all.gradeFor(helper, what - 10);
            default:
                return NONE;
        }
    }

    public int callOf(int call, int what) {
        Calls all = floor.calls;
        if (!all.has(call)) {
            return refuse(NOBODY);
        }
        switch (what) {
            case 0:
                return all.doing[call];
            case 1:
                return all.kind[call];
            case 2:
                return all.sort[call];
            case 3:
                return all.length[call];
            case 4:
                return all.patience[call];
            case 5:
                return all.came[call];
            case 6:
                return all.helper[call];
            case 7:
                return all.doing[call] == WAITING ? floor.tick - all.since[call] : all.lastWaited[call];
            case 8:
                return all.doing[call] == ON || all.doing[call] == BACK ? all.until[call] : NONE;
            case 9:
                return all.own[call];
            default:
                return NONE;
        }
    }

    public int count(int what) {
        switch (what) {
            case 0:
                return floor.tick;
            case 1:
                return floor.helpers.size;
            case 2:
                return floor.calls.size;
            case 3:
                return floor.calls.countDoing(WAITING);
            case 4:
                return floor.calls.countDoing(ON);
            case 5:
                return floor.calls.countDoing(DONE);
            case 6:
                return floor.calls.countDoing(LEFT);
            case 7:
                return floor.calls.countDoing(BACK);
            case 8:
                return floor.helpers.countFree();
            default:
                return what > 10 && what <= 10 + REFUSAL_CODES ? refusals[what - 10] : NONE;
        }
    }

    private int refuse(int code) {
        int place = -code;
        if (place >= 1 && place <= REFUSAL_CODES) {
            refusals[place]++;
        }
        return code;
    }

    private int notWaiting(int call) {
        if (!floor.calls.has(call)) {
            return NOBODY;
        }
        return floor.calls.doing[call] == WAITING ? 0 : STATE;
    }

    private int helperIfGivenNow(int call) {
        trial.copyFrom(floor);
        trial.giveAll();
        return trial.calls.helper[call];
    }

    private static boolean isSort(int sort) {
        return sort >= 0 && sort < SORTS;
    }

    private static boolean isQuarter(int quarter) {
        return quarter >= 0 && quarter < QUARTERS;
    }

    private static int outside(int n, int least, int most) {
        if (n < least) {
            return BELOW;
        }
        return n > most ? ROOM : 0;
    }

    private static long lossWithOneMore(long lossBefore, int load, int helpers) {
        long offered = load * lossBefore;
        long divisor = 100L * helpers * WHOLE + offered;
        return divisor <= 0 ? 0 : offered * WHOLE / divisor;
    }

    /** The helpers, one row for each thing that is known of them; a row's place is a helper's number. */
    private static final class Helpers {
        int size;
        final int[] grades = new int[MOST_HELPERS];
        final int[] doing = new int[MOST_HELPERS];
        final int[] since = new int[MOST_HELPERS];
        final int[] held = new int[MOST_HELPERS];
        final int[] heldKind = new int[MOST_HELPERS];
        final int[] served = new int[MOST_HELPERS];
        final int[] busyTicks = new int[MOST_HELPERS];
        final int[] breakOver = new int[MOST_HELPERS];

        boolean has(int h) {
            return h >= 0 && h < size;
        }

        int add(int gradesOfAll, int tick) {
            if (size >= MOST_HELPERS) {
                return NONE;
            }
            grades[size] = gradesOfAll;
            doing[size] = OUT;
            since[size] = tick;
            return size++;
        }

        void become(int h, int what, int tick) {
            doing[h] = what;
            since[h] = tick;
        }

        int gradeFor(int h, int sort) {
            return grades[h] >> 2 * sort & MOST_GRADE;
        }

        void setGrade(int h, int sort, int g) {
            grades[h] = grades[h] & ~(MOST_GRADE << 2 * sort) | g << 2 * sort;
        }

        int sortsOf(int h) {
            return Integer.bitCount((grades[h] | grades[h] >> 1) & 0x55);
        }

        /** Whether it could take a call of the sort, if nothing told of an own helper. */
        boolean canTake(int h, int sort, boolean written) {
            if (h < 0 || h >= size || (grades[h] >> 2 * sort & MOST_GRADE) == 0) {
                return false;
            }
            if (doing[h] == FREE) {
                return true;
            }
            return written && doing[h] == BUSY && heldKind[h] == WRITTEN && held[h] < MOST_TOGETHER;
        }

        boolean someCanTake(int sort, boolean written) {
            for (int h = 0; h < size; h++) {
                if (canTake(h, sort, written)) {
                    return true;
                }
            }
            return false;
        }

        boolean someInHasGrade(int sort) {
            for (int h = 0; h < size; h++) {
                if (doing[h] != OUT && gradeFor(h, sort) > 0) {
                    return true;
                }
            }
            return false;
        }

        /** Whether a call of the sort goes to h rather than to other, whose number is less. */
        boolean isBetter(int h, int other, int sort) {
            int byGrade = gradeFor(h, sort) - gradeFor(other, sort);
            if (byGrade != 0) {
                return byGrade > 0;
            }
            int bySorts = sortsOf(h) - sortsOf(other);
            if (bySorts != 0) {
                return bySorts < 0;
            }
            if (doing[h] != doing[other]) {
                return doing[h] == FREE;
            }
            return since[h] < since[other];
        }

        void take(int h, int kind, int tick) {
            held[h]++;
            heldKind[h] = kind;
            become(h, BUSY, tick);
        }

        void letGo(int h, int tick) {
            if (!has(h)) {
                return;
            }
            held[h]--;
            become(h, held[h] > 0 ? BUSY : FREE, tick);
        }

        void addBusyTicks(int n) {
            for (int h = 0; h < size; h++) {
                if (doing[h] == BUSY) {
                    busyTicks[h] += n;
                }
            }
        }

        void endBreaks(int tick) {
            for (int h = 0; h < size; h++) {
                if (doing[h] == BREAK && breakOver[h] <= tick) {
                    become(h, FREE, tick);
                }
            }
        }

        int nextBreakOver() {
            int next = NEVER;
            for (int h = 0; h < size; h++) {
                if (doing[h] == BREAK) {
                    next = Math.min(next, breakOver[h]);
                }
            }
            return next;
        }

        int countFree() {
            int free = 0;
            for (int h = 0; h < size; h++) {
                if (doing[h] == FREE) {
                    free++;
                }
            }
            return free;
        }

        void copyFrom(Helpers other) {
            size = other.size;
            System.arraycopy(other.grades, 0, grades, 0, size);
            System.arraycopy(other.doing, 0, doing, 0, size);
            System.arraycopy(other.since, 0, since, 0, size);
            System.arraycopy(other.held, 0, held, 0, size);
            System.arraycopy(other.heldKind, 0, heldKind, 0, size);
            System.arraycopy(other.served, 0, served, 0, size);
            System.arraycopy(other.busyTicks, 0, busyTicks, 0, size);
            System.arraycopy(other.breakOver, 0, breakOver, 0, size);
        }
    }

    /** The calls, one row for each thing that is known of them; a row's place is a call's number. */
    private static final class Calls {
        int size;
        final int[] doing = new int[MOST_CALLS];
        final int[] kind = new int[MOST_CALLS];
        final int[] own = new int[MOST_CALLS];
        final int[] sort = new int[MOST_CALLS];
        final int[] length = new int[MOST_CALLS];
        final int[] patience = new int[MOST_CALLS];
        final int[] came = new int[MOST_CALLS];
        final int[] since = new int[MOST_CALLS];
        final int[] helper = new int[MOST_CALLS];
        final int[] until = new int[MOST_CALLS];
        final int[] firstWaited = new int[MOST_CALLS];
        final int[] lastWaited = new int[MOST_CALLS];

        boolean has(int c) {
            return c >= 0 && c < size;
        }

        int add(int kindOfCall, int ownHelper) {
            if (size >= MOST_CALLS) {
                return NONE;
            }
            kind[size] = kindOfCall;
            own[size] = ownHelper;
            firstWaited[size] = NONE;
            lastWaited[size] = NONE;
            return size++;
        }

        void describe(int c, int newSort, int newLength, int newPatience) {
            sort[c] = newSort;
            length[c] = newLength;
            patience[c] = newPatience;
        }

        void arrive(int c, int tick) {
            came[c] = tick;
            waitAgain(c, tick);
        }

        void waitAgain(int c, int tick) {
            doing[c] = WAITING;
            since[c] = tick;
            helper[c] = NONE;
        }

        void putBack(int c, int ringTick) {
            doing[c] = BACK;
            until[c] = ringTick;
        }

        void start(int c, int h, int tick, int end) {
            doing[c] = ON;
            helper[c] = h;
            until[c] = end;
            lastWaited[c] = tick - since[c];
            if (firstWaited[c] < 0) {
                firstWaited[c] = lastWaited[c];
            }
        }

        void ringBackDue(int tick) {
            for (int c = 0; c < size; c++) {
                if (doing[c] == BACK && until[c] <= tick) {
                    waitAgain(c, tick);
                }
            }
        }

        void loseImpatient(int tick) {
            for (int c = 0; c < size; c++) {
                if (doing[c] == WAITING && tick - since[c] > patience[c]) {
                    doing[c] = LEFT;
                }
            }
        }

        /** The tick after this one in which the call may change by itself, or be given to others than its own. */
        int nextChange(int c, int tick, int prefer) {
            if (doing[c] == ON || doing[c] == BACK) {
                return until[c];
            }
            if (doing[c] != WAITING) {
                return NEVER;
            }
            int leaving = since[c] + patience[c] + 1;
            int open = since[c] + prefer;
            return kind[c] == KNOWN && open > tick ? Math.min(leaving, open) : leaving;
        }

        int firstWith(int h) {
            for (int c = 0; c < size; c++) {
                if (doing[c] == ON && helper[c] == h) {
                    return c;
                }
            }
            return NONE;
        }

        int givenWithin(int n) {
            int given = 0;
            for (int c = 0; c < size; c++) {
                if (firstWaited[c] >= 0 && firstWaited[c] <= n) {
                    given++;
                }
            }
            return given;
        }

        int countDoing(int what) {
            int found = 0;
            for (int c = 0; c < size; c++) {
                if (doing[c] == what) {
                    found++;
                }
            }
            return found;
        }

        void copyFrom(Calls other) {
            size = other.size;
            System.arraycopy(other.doing, 0, doing, 0, size);
            System.arraycopy(other.kind, 0, kind, 0, size);
            System.arraycopy(other.own, 0, own, 0, size);
            System.arraycopy(other.sort, 0, sort, 0, size);
            System.arraycopy(other.length, 0, length, 0, size);
            System.arraycopy(other.patience, 0, patience, 0, size);
            System.arraycopy(other.came, 0, came, 0, size);
            System.arraycopy(other.since, 0, since, 0, size);
            System.arraycopy(other.helper, 0, helper, 0, size);
            System.arraycopy(other.until, 0, until, 0, size);
            System.arraycopy(other.firstWaited, 0, firstWaited, 0, size);
            System.arraycopy(other.lastWaited, 0, lastWaited, 0, size);
        }
    }

    /** Helpers and calls together, and how ticks pass over them. */
    private static final class Floor {
        final Helpers helpers = new Helpers();
        final Calls calls = new Calls();
        final int[] freeFor = new int[SORTS];
        final int[] withRoomFor = new int[SORTS];
        int tick;
        int rule;
        int prefer = FIRST_PREFER;

        void copyFrom(Floor other) {
            helpers.copyFrom(other.helpers);
            calls.copyFrom(other.calls);
            tick = other.tick;
            rule = other.rule;
            prefer = other.prefer;
        }

        int goOn(int n) {
            int done = 0;
            for (int gone = 1; gone <= n; gone++) {
                done += passTick();
                gone += Math.max(0, skipQuietTicks(n - gone));
            }
            return done;
        }

        int ticksTillOn(int c) {
            for (int gone = 1; gone <= WAIT_TICKS; gone++) {
                passTick();
                if (calls.doing[c] == ON) {
                    return gone;
                }
                if (calls.doing[c] == LEFT) {
                    return HAS_LEFT;
                }
                gone += Math.max(0, skipQuietTicks(WAIT_TICKS - gone));
            }
            return NONE;
        }

        private int passTick() {
            helpers.addBusyTicks(1);
            tick++;
            int done = endCalls();
            helpers.endBreaks(tick);
            calls.ringBackDue(tick);
            calls.loseImpatient(tick);
            giveAll();
            return done;
        }

        /** Right after a tick's giving, ticks in which nothing can change need no look at all: how many it skipped. */
        private int skipQuietTicks(int most) {
            int quiet = nextChange() - tick - 1;
            int skipped = Math.max(0, Math.min(quiet, most));
            helpers.addBusyTicks(skipped);
            tick += skipped;
            return skipped;
        }

        private int nextChange() {
            int next = helpers.nextBreakOver();
            for (int c = 0; c < calls.size; c++) {
                next = Math.min(next, calls.nextChange(c, tick, prefer));
            }
            return next;
        }

        private int endCalls() {
            int done = 0;
            for (int c = 0; c < calls.size; c++) {
                if (calls.doing[c] == ON && calls.until[c] <= tick) {
                    calls.doing[c] = DONE;
                    endWith(calls.helper[c]);
                    done++;
                }
            }
            return done;
        }

        private void endWith(int h) {
            if (helpers.has(h)) {
                helpers.served[h]++;
                helpers.letGo(h, tick);
            }
        }

        void giveAll() {
            for (int given = 0; given < calls.size; given++) {
                int c = nextToGive();
                int h = calls.has(c) ? bestHelper(c) : NONE;
                if (!helpers.has(h)) {
                    return;
                }
                give(c, h);
            }
        }

        private void give(int c, int h) {
            int quarters = calls.length[c] * (5 - helpers.gradeFor(h, calls.sort[c]));
            calls.start(c, h, tick, tick + (quarters + 3) / 4);
            helpers.take(h, calls.kind[c], tick);
        }

        private int nextToGive() {
            int best = NONE;
            if (countTakers() == 0) {
                return best;
            }
            int bestRank = 0;
            for (int c = 0; c < calls.size; c++) {
                if (calls.doing[c] != WAITING || !isTakeable(c)) {
                    continue;
                }
                int rank = rankOf(c);
                if (best == NONE || rank < bestRank) {
                    best = c;
                    bestRank = rank;
                }
            }
            return best;
        }

        /** By the rule, the least rank is given first. */
        private int rankOf(int c) {
            switch (rule) {
                case URGENT_FIRST:
                    return calls.kind[c] == URGENT ? 0 : 1;
                case SCARCE_FIRST:
                    return freeFor[calls.sort[c]];
                case SOON_LEAVING_FIRST:
                    return calls.since[c] + calls.patience[c];
                default:
                    return 0;
            }
        }

        private int countTakers() {
            int all = 0;
            for (int sort = 0; sort < SORTS; sort++) {
                freeFor[sort] = 0;
                withRoomFor[sort] = 0;
                for (int h = 0; h < helpers.size; h++) {
                    if (helpers.canTake(h, sort, false)) {
                        freeFor[sort]++;
                    } else if (helpers.canTake(h, sort, true)) {
                        withRoomFor[sort]++;
                    }
                }
                all += freeFor[sort] + withRoomFor[sort];
            }
            return all;
        }

        private boolean isTakeable(int c) {
            int sort = calls.sort[c];
            if (isKeptForOwn(c)) {
                return helpers.canTake(calls.own[c], sort, false);
            }
            return freeFor[sort] > 0 || calls.kind[c] == WRITTEN && withRoomFor[sort] > 0;
        }

        private boolean isKeptForOwn(int c) {
            return calls.kind[c] == KNOWN && tick - calls.since[c] < prefer;
        }

        private int bestHelper(int c) {
            int sort = calls.sort[c];
            boolean written = calls.kind[c] == WRITTEN;
            int own = calls.own[c];
            if (helpers.canTake(own, sort, written)) {
                return own;
            }
            if (isKeptForOwn(c)) {
                return NONE;
            }
            int best = NONE;
            for (int h = 0; h < helpers.size; h++) {
                if (helpers.canTake(h, sort, written) && (best == NONE || helpers.isBetter(h, best, sort))) {
                    best = h;
                }
            }
            return best;
        }

        /** Why a waiting call that would not be given now is not, as the document numbers it. */
        int hindrance(int c) {
            int sort = calls.sort[c];
            if (!helpers.someInHasGrade(sort)) {
                return 1;
            }
            if (!helpers.someCanTake(sort, calls.kind[c] == WRITTEN)) {
                return 2;
            }
            return isKeptForOwn(c) && !helpers.canTake(calls.own[c], sort, false) ? 3 : 4;
        }
    }

    /** How many are wanted in each quarter, and the shifts that cover it. */
    private static final class Shifts {
        final int[] wants = new int[QUARTERS];
        final int[] beginning = new int[QUARTERS];

        /**
         * Each quarter's lack, from the first on, is met by shifts that begin as late as they can and
         * still are there: no way has fewer shifts begun up to any quarter.
         */
        int plan(int length) {
            int last = QUARTERS - length;
            if (length < 1 || last < 0) {
                return 0;
            }
            for (int q = 0; q < QUARTERS; q++) {
                beginning[q] = 0;
            }
            int there = 0;
            int shifts = 0;
            for (int q = 0; q < QUARTERS; q++) {
                there -= q >= length ? beginning[q - length] : 0;
                int lacking = Math.max(0, wants[q] - there);
                beginning[Math.min(q, last)] += lacking;
                there += lacking;
                shifts += lacking;
            }
            return shifts;
        }
    }
}
