/**
 * Each promise at its limits: the last value that is taken and the first that is refused, every state in which a
 * call is refused, and which number is told where several fit. Runs looks after what a refused call may change.
 */
public final class LimitsTest {
    private static final String LEAST = "-2147483648";
    private static final String MOST = "2147483647";

    /**
     * Tick 5. Helpers: 0 FREE, 1 BUSY with a CALL, 2 on a BREAK, 3 OUT, 4 BUSY with two WRITTEN ones. Calls: 0 DONE,
     * 1 ON, 2 LEFT, 3 BACK, 4 and 5 ON (WRITTEN), 6 to 10 WAITING (KNOWN, CALL, URGENT, WRITTEN, CALL).
     */
    private static final String BUSY = "helper(1)=0; helper(8)=1; helper(1)=2; helper(1)=3; helper(192)=4;"
        + "duty(0); duty(1); duty(2); duty(4); rule(2)=0; prefer(30)=20; want(3,7); want(15,50); cover(4)=57; want(4,9);"
        + "call(0,1,4,90,0)=0; ticks(1)=0; call(0,1,100,90,0)=1; call(0,2,5,1,0)=2; call(0,2,5,90,0)=3; ring(3,60)=61;"
        + "call(3,3,80,90,0)=4; call(3,3,80,90,0)=5; ticks(4)=1; pause(2,50)=55; call(1,0,10,90,2)=6;"
        + "call(0,2,10,90,0)=7; call(2,1,10,90,0)=8; call(3,3,10,90,0)=9; call(0,0,10,90,0)=10;";

    /** Ten helpers, all FREE, and 200 calls, all WAITING. */
    private static final String FULL = Runs.each(10, h -> "helper(" + (255 - h) + ")=" + h + "; duty(" + h + ")")
        + Runs.each(200, c -> "call(" + c % 4 + "," + c / 4 % 4 + "," + (1 + c) + "," + (5000 - c) + "," + c % 10 + ")=" + c);

    private static final Runs RUNS = new Runs();

    public static void main(String[] args) {
        busyRoom();
        newObject();
        helper();
        grade();
        duty();
        out();
        pause();
        call();
        rule();
        prefer();
        ring();
        pass();
        leave();
        urge();
        ticks();
        waits();
        who();
        why();
        within();
        loss();
        wanted();
        want();
        cover();
        begins();
        helperOf();
        callOf();
        count();
        RUNS.end(1, 26);
    }

    private static void run(String sentence, String... texts) {
        RUNS.run(sentence, texts);
    }

    private static void busyRoom() {
        run("0 what they do: 0 OUT, 1 FREE, 2 BUSY, 3 on a BREAK", BUSY, "helperOf(3,0)=0; helperOf(0,0)=1",
            "helperOf(1,0)=2; helperOf(4,0)=2; helperOf(2,0)=3");
        run("0 each is 0 WAITING, 1 ON, 2 DONE, 3 LEFT, 4 to be rung BACK", BUSY, "callOf(6,0)=0; callOf(10,0)=0",
            "callOf(1,0)=1; callOf(4,0)=1; callOf(5,0)=1; callOf(0,0)=2; callOf(2,0)=3; callOf(3,0)=4");
        run("0 KIND: 0 CALL, 1 KNOWN, 2 URGENT, 3 WRITTEN", BUSY, "callOf(7,1)=0; callOf(6,1)=1; callOf(8,1)=2",
            "callOf(9,1)=3");
    }

    private static void newObject() {
        run("1 nobody: no HELPER", "count(1)=0; count(8)=0; helperOf(0,0)=-1; duty(0)=-1; grade(0,0,0)=-1",
            "call(1,0,1,1,0)=-1");
        run("1 nobody: no CALL", Runs.each(6, w -> "count(" + (2 + w) + ")=0"), "callOf(0,0)=-1; who(0)=-1",
            "within(20000)=0");
        run("1 TICKS go on from 0", "count(0)=0; ticks(1)=0; count(0)=1");
        run("1 no REFUSALS yet", Runs.each(6, w -> "count(" + (11 + w) + ")=0"));
        run("1 RULE 0 is told", "rule(3)=0");
        run("1 RULE 0 is gone by", "helper(1); duty(0); call(3,0,1,90,0); call(2,0,1,1,0); who(0)=0; who(1)=-9");
        run("1 PREFER: 20 at first", "prefer(0)=20");
        run("1 WANT: 0 at first", Runs.each(16, q -> "want(" + q + ",1)=0"));
        run("1 begins: 0 without a cover", Runs.each(16, q -> "begins(" + q + ")=0"));
    }

    private static void helper() {
        run("2 HELPERS have numbers from 0 on", "helper(7)=0; helper(7)=1; helper(7)=2; count(1)=3");
        run("2 OUT, since now", "ticks(6)=0; helper(255)=0; helperOf(0,0)=0; helperOf(0,3)=6; count(8)=0",
            "helperOf(0,1)=0; helperOf(0,2)=-9; helperOf(0,4)=0; helperOf(0,5)=0; helperOf(0,6)=-9");
        run("2 GRADES as 2 bits each, SORT 0 the lowest", "helper(3)=0; helperOf(0,10)=3; helperOf(0,11)=0",
            "helperOf(0,13)=0",
            "helper(192)=1; helperOf(1,10)=0; helperOf(1,12)=0; helperOf(1,13)=3",
            "helper(27)=2; helperOf(2,10)=3; helperOf(2,11)=2; helperOf(2,12)=1; helperOf(2,13)=0");
        run("2 -4 below 0", "helper(0)=0", Runs.each(4, s -> "helperOf(0," + (10 + s) + ")=0"), "helper(-1)=-4; count(1)=1");
        run("2 -6 above 255", "helper(255)=0", Runs.each(4, s -> "helperOf(0," + (10 + s) + ")=3"), "helper(256)=-6",
            "count(1)=1");
        run("2 far outside", BUSY, "helper(" + LEAST + ")=-4; helper(" + MOST + ")=-6; helper(-1)=-4; helper(256)=-6",
            "count(1)=5");
        run("2 -6 above 10", Runs.each(9, h -> "helper(1)=" + h), "helper(2)=9; duty(9)=1; helperOf(9,10)=2; helper(0)=-6",
            "helper(255)=-6",
            "count(1)=10; helperOf(10,0)=-1; duty(10)=-1");
        run("2 -4 ahead of no room", FULL, "helper(0)=-6; helper(-1)=-4; helper(256)=-6");
    }

    private static void grade() {
        run("3 what it was; GRADE 0 .. 3", "helper(27); grade(0,0,0)=3; grade(0,0,3)=0; grade(0,0,1)=3; grade(0,0,2)=1",
            "helperOf(0,10)=2",
            "helperOf(0,11)=2; helperOf(0,12)=1; helperOf(0,13)=0");
        run("3 of the last SORT", "helper(27); grade(0,3,3)=0; helperOf(0,13)=3; grade(0,3,0)=3; helperOf(0,13)=0",
            "helperOf(0,12)=1");
        run("3 -1 no such HELPER", BUSY, "grade(4,3,1)=3; grade(5,3,1)=-1; grade(-1,3,1)=-1",
            "grade(" + LEAST + ",0,0)=-1; grade(" + MOST + ",0,0)=-1");
        run("3 -1 no such SORT", BUSY, "grade(0,0,1)=1; grade(0,3,0)=0; grade(0,4,1)=-1; grade(0,-1,1)=-1",
            "grade(0," + LEAST + ",0)=-1; grade(0," + MOST + ",0)=-1");
        run("3 -4", BUSY, "grade(0,0,0)=1; grade(0,0,-1)=-4; grade(0,0," + LEAST + ")=-4; helperOf(0,10)=0");
        run("3 -6", BUSY, "grade(0,0,3)=1; grade(0,0,4)=-6; grade(0,0," + MOST + ")=-6; helperOf(0,10)=3");
        run("3 -1 ahead of -4 and -6", BUSY, "grade(5,0,-1)=-1; grade(5,0,4)=-1; grade(0,4,-1)=-1; grade(0,4,4)=-1");
        run("3 of a HELPER in every state", BUSY, "grade(0,2,1)=0; grade(1,2,1)=0; grade(2,2,1)=0; grade(3,2,1)=0",
            "grade(4,2,1)=0");
        run("3 it stays as it is, since then", BUSY, "grade(4,3,1)=3; helperOf(4,0)=2; helperOf(4,3)=2; grade(0,1,1)=0",
            "helperOf(0,3)=0",
            "grade(2,1,1)=0; helperOf(2,0)=3; helperOf(2,3)=5; helperOf(2,6)=55");
        run("3 CALLS that it has go on as they were", BUSY, "grade(1,1,0)=2; callOf(1,0)=1; callOf(1,8)=79; ticks(73)=5",
            "callOf(1,0)=1",
            "ticks(1)=1; callOf(1,0)=2; helperOf(1,0)=1; grade(4,3,1)=3; callOf(4,0)=2");
        run("3 the new GRADE is for the next CALL", BUSY, "grade(4,3,1)=3; ticks(1)=0; callOf(9,8)=16; callOf(4,8)=42");
        run("3 GRADE 0: it can't", BUSY, "who(10)=0; grade(0,0,0)=1; who(10)=-9; grade(0,0,1)=0; who(10)=0");
    }

    private static void duty() {
        run("4 OUT, is FREE since now", BUSY, "duty(3)=1; helperOf(3,0)=1; helperOf(3,3)=5; count(8)=2; ticks(1)=0",
            "helperOf(3,3)=5");
        run("4 -1", BUSY, "duty(5)=-1; duty(-1)=-1; duty(" + LEAST + ")=-1; duty(" + MOST + ")=-1");
        run("4 -2 FREE", BUSY, "duty(0)=-2; helperOf(0,3)=0");
        run("4 -2 BUSY", BUSY, "duty(1)=-2; duty(4)=-2; helperOf(4,1)=2");
        run("4 -2 on a BREAK", BUSY, "duty(2)=-2; helperOf(2,6)=55");
        run("4 the last of ten", Runs.each(10, h -> "helper(1)"), "duty(9)=1; duty(10)=-1; count(8)=1");
        run("4 twice", "helper(1); duty(0)=1; duty(0)=-2; out(0)=1; duty(0)=1");
    }

    private static void out() {
        run("5 FREE, is OUT since now", BUSY, "out(0)=1; helperOf(0,0)=0; helperOf(0,3)=5; count(8)=0; who(10)=-9");
        run("5 on a BREAK, is OUT since now", BUSY, "ticks(1)=0; out(2)=1; helperOf(2,0)=0; helperOf(2,3)=6",
            "helperOf(2,6)=-9",
            "ticks(60)=5; helperOf(2,0)=0; helperOf(2,3)=6");
        run("5 a BREAK that was left does not end a later one", BUSY, "out(2)=1; duty(2)=1; pause(2,100)=105; ticks(50)=5",
            "helperOf(2,0)=3; helperOf(2,6)=105; ticks(50)=2; helperOf(2,0)=1; helperOf(2,3)=105");
        run("5 -1", BUSY, "out(5)=-1; out(-1)=-1; out(" + LEAST + ")=-1; out(" + MOST + ")=-1");
        run("5 -2 BUSY", BUSY, "out(1)=-2; out(4)=-2; callOf(1,0)=1; callOf(4,0)=1");
        run("5 -2 OUT", BUSY, "out(3)=-2; helperOf(3,3)=0");
        run("5 in the tick in which it is FREE again", BUSY, "leave(8)=1; ticks(74)=6; out(1)=1");
    }

    private static void pause() {
        run("6 the TICK in which it is over", BUSY, "pause(0,7)=12; helperOf(0,0)=3; helperOf(0,3)=5; helperOf(0,6)=12",
            "count(8)=0");
        run("6 -1", BUSY, "pause(5,1)=-1; pause(-1,1)=-1; pause(" + LEAST + ",1)=-1; pause(" + MOST + ",1)=-1");
        run("6 -2 BUSY", BUSY, "pause(1,1)=-2; pause(4,1)=-2");
        run("6 -2 on a BREAK", BUSY, "pause(2,1)=-2; helperOf(2,6)=55");
        run("6 -2 OUT", BUSY, "pause(3,1)=-2; helperOf(3,6)=-9");
        run("6 -4 below 1", BUSY, "pause(0,0)=-4; pause(0,-1)=-4; pause(0," + LEAST + ")=-4; pause(0,1)=6; ticks(1)=0",
            "helperOf(0,6)=-9");
        run("6 -6 above 5000", BUSY, "pause(0,5001)=-6; pause(0," + MOST + ")=-6; pause(0,5000)=5005; ticks(4999)=7",
            "helperOf(0,0)=3",
            "ticks(1)=0; helperOf(0,0)=1; helperOf(0,3)=5005");
        run("6 -1 ahead of -4 and -6", BUSY, "pause(5,0)=-1; pause(5,5001)=-1");
        run("6 -2 ahead of -4 and -6", BUSY, "pause(1,0)=-2; pause(1,5001)=-2; pause(2,0)=-2; pause(3,5001)=-2");
        run("6 past the last TICK", "helper(1); duty(0); ticks(20000)=0; pause(0,5000)=25000; helperOf(0,6)=25000",
            "helperOf(0,0)=3");
    }

    private static void call() {
        run("7 a CALL comes, WAITING: its number", BUSY, "call(0,3,77,88,0)=11; callOf(11,0)=0; callOf(11,1)=0",
            "callOf(11,2)=3",
            "callOf(11,3)=77; callOf(11,4)=88; callOf(11,5)=5; callOf(11,6)=-9; callOf(11,7)=0; callOf(11,8)=-9",
            "callOf(11,9)=-9",
            "count(2)=12; count(3)=6");
        run("7 -1 KIND", BUSY, "call(0,0,1,0,0)=11; call(3,0,1,0,0)=12; call(4,0,1,0,0)=-1; call(-1,0,1,0,0)=-1",
            "call(" + LEAST + ",0,1,0,0)=-1; call(" + MOST + ",0,1,0,0)=-1; count(2)=13");
        run("7 -1 SORT", BUSY, "call(0,0,1,0,0)=11; call(0,3,1,0,0)=12; call(0,4,1,0,0)=-1; call(0,-1,1,0,0)=-1",
            "call(0," + LEAST + ",1,0,0)=-1; call(0," + MOST + ",1,0,0)=-1; count(2)=13");
        run("7 -1 own", BUSY, "call(1,0,1,0,0)=11; callOf(11,9)=0; call(1,0,1,0,4)=12; callOf(12,9)=4; call(1,0,1,0,5)=-1",
            "call(1,0,1,0,-1)=-1",
            "call(1,0,1,0," + LEAST + ")=-1; call(1,0,1,0," + MOST + ")=-1; count(2)=13");
        run("7 own: of KNOWN alone", BUSY, "call(0,0,1,0,5)=11; call(2,0,1,0,-1)=12; call(3,0,1,0," + MOST + ")=13",
            "callOf(11,9)=-9; callOf(12,9)=-9; callOf(13,9)=-9");
        run("7 own may be in every state, without a GRADE", BUSY, "call(1,2,1,0,0)=11; call(1,2,1,0,1)=12",
            "call(1,2,1,0,2)=13; call(1,2,1,0,3)=14");
        run("7 -4 length below 1", BUSY, "call(0,0,1,9,0)=11; callOf(11,3)=1; call(0,0,0,9,0)=-4",
            "call(0,0," + LEAST + ",9,0)=-4");
        run("7 -4 patience below 0", BUSY, "call(0,0,9,0,0)=11; callOf(11,4)=0; call(0,0,9,-1,0)=-4",
            "call(0,0,9," + LEAST + ",0)=-4");
        run("7 -6 length above 1000", BUSY, "call(0,0,1000,9,0)=11; callOf(11,3)=1000; call(0,0,1001,9,0)=-6",
            "call(0,0," + MOST + ",9,0)=-6");
        run("7 -6 patience above 5000", BUSY, "call(0,0,9,5000,0)=11; callOf(11,4)=5000; call(0,0,9,5001,0)=-6",
            "call(0,0,9," + MOST + ",0)=-6");
        run("7 -1 ahead of -4 and -6", BUSY, "call(4,0,0,0,0)=-1; call(0,4,0,0,0)=-1; call(1,0,0,0,5)=-1",
            "call(4,0,1,-1,0)=-1",
            "call(4,0,1001,0,0)=-1; call(0,4,1,5001,0)=-1; call(1,0,1001,0,5)=-1");
        run("7 -4 ahead of -6", BUSY, "call(0,0,0,5001,0)=-4; call(0,0,1001,-1,0)=-4");
        run("7 -6 above 200", "helper(1); duty(0)", Runs.each(199, c -> "call(0,0,1,0,0)=" + c),
            "call(2,3,7,8,0)=199; callOf(199,0)=0; callOf(199,2)=3; call(0,0,1,0,0)=-6; count(2)=200; callOf(200,0)=-1");
        run("7 -1 and -4 ahead of no room", FULL, "call(0,0,0,0,0)=-4; call(0,0,1,-1,0)=-4; call(4,0,1,0,0)=-1",
            "call(1,0,1,0,10)=-1; call(1,0,1,0,9)=-6");
        run("7 DONE and LEFT ones still count", Runs.each(200, c -> "call(0,0,1,0,0)=" + c), "ticks(1)=0; count(6)=200",
            "call(0,0,1,0,0)=-6; count(3)=0");
    }

    private static void rule() {
        run("8 what it was", "rule(1)=0; rule(2)=1; rule(3)=2; rule(0)=3; rule(0)=0");
        run("8 -1", BUSY, "rule(4)=-1; rule(-1)=-1; rule(" + LEAST + ")=-1; rule(" + MOST + ")=-1; rule(3)=2; rule(4)=-1",
            "rule(0)=3; rule(-1)=-1; rule(0)=0");
    }

    private static void prefer() {
        run("9 what it was; 0 .. 1000", BUSY, "prefer(0)=30; prefer(1000)=0; prefer(1)=1000; prefer(999)=1");
        run("9 -4", BUSY, "prefer(-1)=-4; prefer(" + LEAST + ")=-4; prefer(0)=30; prefer(-1)=-4; prefer(0)=0");
        run("9 -6", BUSY, "prefer(1001)=-6; prefer(" + MOST + ")=-6; prefer(1000)=30; prefer(1001)=-6; prefer(0)=1000");
    }

    private static void ring() {
        run("10 that TICK", BUSY, "ring(10,7)=12; callOf(10,0)=4; callOf(10,8)=12; callOf(10,7)=-9; callOf(10,5)=5",
            "count(3)=4; count(7)=2",
            "ticks(6)=1; callOf(10,0)=4; ticks(1)=0; callOf(10,0)=1; callOf(10,7)=0");
        run("10 of every KIND", BUSY, "ring(6,9)=14; ring(7,9)=14; ring(8,9)=14; ring(9,9)=14; callOf(6,9)=2",
            "callOf(6,1)=1; callOf(8,1)=2; callOf(9,1)=3");
        run("10 -1", BUSY, "ring(11,1)=-1; ring(-1,1)=-1; ring(" + LEAST + ",1)=-1; ring(" + MOST + ",1)=-1; ring(10,1)=6");
        run("10 -2 ON", BUSY, "ring(1,1)=-2; ring(4,1)=-2");
        run("10 -2 DONE", BUSY, "ring(0,1)=-2");
        run("10 -2 LEFT", BUSY, "ring(2,1)=-2");
        run("10 -2 BACK", BUSY, "ring(3,1)=-2; callOf(3,8)=61");
        run("10 -4 below 1", BUSY, "ring(7,0)=-4; ring(7,-1)=-4; ring(7," + LEAST + ")=-4; ring(7,1)=6; ticks(1)=0",
            "callOf(7,0)=0; callOf(7,7)=0");
        run("10 -6 above 5000", BUSY, "ring(7,5001)=-6; ring(7," + MOST + ")=-6; ring(7,5000)=5005; ticks(4999)=7",
            "callOf(7,0)=4; ticks(1)=0; callOf(7,0)=0");
        run("10 -1 ahead of -4 and -6", BUSY, "ring(11,0)=-1; ring(11,5001)=-1");
        run("10 -2 ahead of -4 and -6", BUSY, "ring(1,0)=-2; ring(1,5001)=-2; ring(0,0)=-2; ring(2,5001)=-2; ring(3,0)=-2");
        run("10 past the last TICK", "ticks(20000); call(0,0,1,1,0); ring(0,5000)=25000; callOf(0,8)=25000; callOf(0,0)=4");
        run("10 WAITED so far is no more", "call(0,0,1,5,0); ticks(5); callOf(0,7)=5; ring(0,1)=6; ticks(1); callOf(0,7)=0",
            "ticks(5); callOf(0,0)=0; ticks(1); callOf(0,0)=3");
    }

    private static void pass() {
        run("11 its HELPER's number; it is WAITING, WAITED 0", BUSY, "pass(1,3,1000)=1; callOf(1,0)=0; callOf(1,2)=3",
            "callOf(1,3)=1000; callOf(1,4)=90",
            "callOf(1,5)=1; callOf(1,6)=-9; callOf(1,7)=0; callOf(1,8)=-9; count(3)=6; count(4)=2; count(5)=1");
        run("11 its HELPER is FREE", BUSY, "pass(1,3,1000)=1; helperOf(1,0)=1; helperOf(1,1)=0; helperOf(1,2)=-9",
            "helperOf(1,3)=5; helperOf(1,4)=1; count(8)=2");
        run("11 if it has no other", BUSY, "pass(4,3,7)=4; helperOf(4,0)=2; helperOf(4,1)=1; helperOf(4,2)=5",
            "helperOf(4,3)=5; callOf(5,8)=42",
            "pass(5,3,7)=4; helperOf(4,0)=1; helperOf(4,1)=0; helperOf(4,3)=5");
        run("11 -1 no such CALL", BUSY, "pass(11,0,1)=-1; pass(-1,0,1)=-1; pass(" + LEAST + ",0,1)=-1",
            "pass(" + MOST + ",0,1)=-1");
        run("11 -1 no such SORT", BUSY, "pass(1,4,1)=-1; pass(1,-1,1)=-1; pass(1," + LEAST + ",1)=-1",
            "pass(1," + MOST + ",1)=-1",
            "pass(1,0,1)=1; pass(4,3,1)=4; callOf(1,2)=0; callOf(4,2)=3");
        run("11 -2 WAITING", BUSY, "pass(6,0,1)=-2; pass(10,0,1)=-2");
        run("11 -2 DONE", BUSY, "pass(0,0,1)=-2");
        run("11 -2 LEFT", BUSY, "pass(2,0,1)=-2");
        run("11 -2 BACK", BUSY, "pass(3,0,1)=-2");
        run("11 -4", BUSY, "pass(1,0,0)=-4; pass(1,0," + LEAST + ")=-4; pass(1,0,1)=1; callOf(1,3)=1");
        run("11 -6", BUSY, "pass(1,0,1001)=-6; pass(1,0," + MOST + ")=-6; pass(1,0,1000)=1; callOf(1,3)=1000");
        run("11 -1 ahead of -2, -4 and -6", BUSY, "pass(11,0,0)=-1; pass(11,0,1001)=-1; pass(1,4,0)=-1; pass(1,4,1001)=-1",
            "pass(0,4,1)=-1; pass(6,-1,0)=-1");
        run("11 -2 ahead of -4 and -6", BUSY, "pass(0,0,0)=-2; pass(0,0,1001)=-2; pass(6,0,0)=-2; pass(3,0,1001)=-2");
        run("11 passed on once more", "helper(5); duty(0); call(0,0,9,90,0); ticks(1); pass(0,1,9)=0; pass(0,0,9)=-2",
            "ticks(1); pass(0,0,9)=0; helperOf(0,4)=0");
        run("11 to one that is the same", "helper(1); duty(0); call(0,0,9,90,0); ticks(4); pass(0,0,9)=0; ticks(1)",
            "callOf(0,6)=0; callOf(0,8)=14; callOf(0,7)=1");
        run("11 a KNOWN one has its OWN still", "helper(1); duty(0); call(1,0,9,90,0); ticks(1); pass(0,1,9)=0",
            "callOf(0,1)=1; callOf(0,9)=0");
        run("11 an URGENT and a WRITTEN one are so still", "helper(1); helper(1); duty(0); duty(1); call(2,0,9,90,0)",
            "call(3,0,9,90,0); ticks(1)",
            "pass(0,1,9)=0; pass(1,1,9)=1; callOf(0,1)=2; callOf(1,1)=3; callOf(0,9)=-9");
    }

    private static void leave() {
        run("12 WAITING, has LEFT", BUSY, "leave(10)=1; callOf(10,0)=3; callOf(10,7)=-9; callOf(10,6)=-9; count(3)=4",
            "count(6)=2; who(10)=-2");
        run("12 to be rung BACK, has LEFT", BUSY, "leave(3)=1; callOf(3,0)=3; callOf(3,8)=-9; count(7)=0; count(6)=2",
            "ticks(56)=5; callOf(3,0)=3");
        run("12 -1", BUSY, "leave(11)=-1; leave(-1)=-1; leave(" + LEAST + ")=-1; leave(" + MOST + ")=-1");
        run("12 -2 ON", BUSY, "leave(1)=-2; leave(4)=-2");
        run("12 -2 DONE", BUSY, "leave(0)=-2");
        run("12 -2 LEFT", BUSY, "leave(2)=-2; leave(10)=1; leave(10)=-2");
        run("12 the last of 200", FULL, "leave(199)=1; leave(200)=-1; count(6)=1; call(0,0,1,1,0)=-6");
    }

    private static void urge() {
        run("13 URGENT from now on", BUSY, "urge(10)=1; callOf(10,1)=2; callOf(10,0)=0; callOf(10,9)=-9; callOf(10,2)=0",
            "callOf(10,3)=10; callOf(10,4)=90");
        run("13 a KNOWN one no more; it has no OWN then", BUSY, "callOf(6,9)=2; why(6)=3; urge(6)=1; callOf(6,1)=2",
            "callOf(6,9)=-9; who(6)=0");
        run("13 WAITED goes on", BUSY, "ticks(3)=0; urge(7)=1; callOf(7,7)=3; callOf(7,5)=5");
        run("13 -1", BUSY, "urge(11)=-1; urge(-1)=-1; urge(" + LEAST + ")=-1; urge(" + MOST + ")=-1");
        run("13 -2 ON", BUSY, "urge(1)=-2; callOf(1,1)=0");
        run("13 -2 DONE", BUSY, "urge(0)=-2; callOf(0,1)=0");
        run("13 -2 LEFT", BUSY, "urge(2)=-2; callOf(2,1)=0");
        run("13 -2 BACK", BUSY, "urge(3)=-2; callOf(3,1)=0");
        run("13 -2 also if it is", BUSY, "urge(8)=-2; urge(10)=1; urge(10)=-2");
        run("13 -2 or is WRITTEN", BUSY, "urge(9)=-2; callOf(9,1)=3");
        run("13 a rung one and a passed one are WAITING", BUSY, "pass(1,2,5)=1; urge(1)=1; ticks(56)=6; urge(3)=1",
            "callOf(3,7)=0");
    }

    private static void ticks() {
        run("14 how many CALLS were DONE", BUSY, "ticks(37)=4; count(0)=42; count(5)=5");
        run("14 -4 below 1", BUSY, "ticks(0)=-4; ticks(-1)=-4; ticks(" + LEAST + ")=-4; ticks(1)=0; count(0)=6");
        run("14 -6 above 20000 in all", BUSY, "ticks(19996)=-6; ticks(20000)=-6; ticks(" + MOST + ")=-6; ticks(19995)=7",
            "count(0)=20000; ticks(1)=-6");
        run("14 -6 of a new one", "ticks(20001)=-6; count(0)=0; ticks(20000)=0; count(0)=20000; ticks(1)=-6",
            "ticks(" + MOST + ")=-6; count(0)=20000");
        run("14 -4 at the end too", "ticks(19999)=0; ticks(2)=-6; ticks(1)=0; ticks(0)=-4; ticks(" + LEAST + ")=-4",
            "ticks(1)=-6");
        run("14 all else goes on at the end", BUSY, "ticks(19995)=7; call(0,0,5,9,0)=11; who(11)=0; wait(11)=1",
            "ring(11,3)=20003; duty(3)=1; pause(3,4)=20004",
            "helper(1)=5; out(0)=1; helperOf(0,3)=20000; leave(11)=1; ticks(1)=-6");
    }

    private static void waits() {
        run("15 WAIT; nothing is done", BUSY, "wait(10)=1; wait(9)=1; wait(8)=74; wait(7)=-8; wait(6)=30; count(0)=5",
            "count(3)=5; helperOf(0,5)=0; callOf(10,0)=0");
        run("15 -1", BUSY, "wait(11)=-1; wait(-1)=-1; wait(" + LEAST + ")=-1; wait(" + MOST + ")=-1");
        run("15 -2 it is not WAITING", BUSY, "wait(0)=-2; wait(1)=-2; wait(2)=-2; wait(3)=-2; wait(4)=-2");
        run("15 the last of 200", FULL, "wait(200)=-1; ticks(5000)");
    }

    private static void who() {
        run("16 the HELPER that would get it; -9 none", BUSY, "who(10)=0; who(9)=4; who(8)=-9; who(7)=-9; who(6)=-9",
            "count(3)=5; count(12)=0");
        run("16 -1", BUSY, "who(11)=-1; who(-1)=-1; who(" + LEAST + ")=-1; who(" + MOST + ")=-1");
        run("16 -2 it is not WAITING", BUSY, "who(0)=-2; who(1)=-2; who(2)=-2; who(3)=-2; who(4)=-2");
        run("16 of all others WAITING, too", BUSY, "call(0,0,1,1,0)=11; who(11)=-9; leave(10)=1; who(11)=0");
        run("16 PATIENCE is not looked at", "helper(1); duty(0); call(0,0,1,0,0); who(0)=0; why(0)=0; wait(0)=-8; ticks(1)",
            "callOf(0,0)=3");
    }

    private static void why() {
        run("17 all five", BUSY, "call(0,0,1,9,0)=11; why(10)=0; why(9)=0; why(7)=1; why(8)=2; why(6)=3; why(11)=4",
            "count(3)=6");
        run("17 -1", BUSY, "why(11)=-1; why(-1)=-1; why(" + LEAST + ")=-1; why(" + MOST + ")=-1");
        run("17 -2", BUSY, "why(0)=-2; why(1)=-2; why(2)=-2; why(3)=-2; why(4)=-2");
        run("17 1 without anybody", "call(0,0,1,9,0); why(0)=1; call(1,0,1,9,0)=-1");
        run("17 1: not OUT; on a BREAK is 2", "helper(1); call(0,0,1,9,0); why(0)=1; duty(0); why(0)=0; pause(0,5)",
            "why(0)=2; out(0); why(0)=1");
        run("17 1: a GRADE above 0", "helper(4); duty(0); call(0,0,1,9,0); why(0)=1; grade(0,0,1); why(0)=0; grade(0,0,0)",
            "why(0)=1");
        run("17 1 and 2 with all ten HELPERS", Runs.each(10, h -> "helper(1); duty(" + h + ")"), "call(0,3,1,9,0)",
            "why(0)=1; grade(9,3,1); why(0)=0; pause(9,1); why(0)=2; out(9); why(0)=1");
        run("17 2: BUSY with three WRITTEN ones has no room", BUSY, "call(3,3,9,90,0)=11; why(9)=0; why(11)=4; ticks(1)=0",
            "callOf(9,0)=1; why(11)=2");
        run("17 2: BUSY with WRITTEN ones has room for WRITTEN ones alone", BUSY, "call(0,3,9,90,0)=11",
            "call(2,3,9,90,0)=12; call(1,3,9,90,4)=13; why(11)=2; why(12)=2; why(13)=2");
        run("17 2: BUSY with another has none for a WRITTEN one", BUSY, "call(3,1,9,90,0)=11; why(11)=2");
        run("17 3: up to PREFER", "helper(1); helper(1); duty(0); prefer(3); call(1,0,5,90,1); why(0)=3; prefer(0)=3",
            "why(0)=0; prefer(1)=0; why(0)=3");
        run("17 3: with an OWN that has no GRADE", "helper(1); helper(4); duty(0); duty(1); call(1,0,5,90,1); why(0)=3");
        run("17 3: with an OWN that is BUSY with WRITTEN ones", "helper(1); helper(1); duty(1); call(3,0,50,90,0)",
            "ticks(1); duty(0); call(1,0,5,90,1); why(1)=3");
        run("17 4: KNOWN ones too, once PREFER is over", "helper(1); helper(1); duty(0); prefer(0); call(0,0,5,90,0)",
            "call(1,0,5,90,1); why(0)=0; why(1)=4");
        run("17 4: its OWN may take it, but another gets it", "helper(1); duty(0); call(0,0,5,90,0); call(1,0,5,90,0)",
            "why(1)=4; leave(0); why(1)=0");
    }

    private static void within() {
        run("18 of the CALLS that were GIVEN", BUSY, "within(0)=0; within(1)=3; within(2)=3; within(3)=4",
            "within(" + MOST + ")=4");
        run("18 -4", BUSY, "within(-1)=-4; within(" + LEAST + ")=-4; within(0)=0");
        run("18 n TICKS or less; 0", "helper(1); duty(0); call(0,0,1,9,0); ring(0,1); within(0)=0; ticks(1); within(0)=1");
        run("18 (first) ON", "helper(1); duty(0); call(0,0,9,90,0); ticks(1); within(0)=0; within(1)=1; pass(0,0,9)=0",
            "within(1)=1",
            "pause(0,5); ticks(5); callOf(0,7)=5; within(0)=0; within(1)=1; within(9)=1");
        run("18 WAITED as it was ON, not since its coming", "helper(1); duty(0); call(0,0,9,90,0); ring(0,50); ticks(51)",
            "within(0)=1; callOf(0,5)=0");
        run("18 (first) ON with 0 WAITED", "helper(1); duty(0); call(0,0,9,90,0); ring(0,1); ticks(1); callOf(0,7)=0",
            "pass(0,0,9)=0; ticks(1); callOf(0,7)=1; within(0)=1");
        run("18 LEFT ones that were ON count", "helper(1); duty(0); call(0,0,9,90,0); ticks(1); pass(0,1,9); leave(0)=1",
            "within(1)=1");
        run("18 LEFT and WAITING ones that never were do not", "call(0,0,9,0,0); call(0,0,9,90,0); ticks(1)",
            "within(20000)=0");
    }

    private static void loss() {
        run("19 of 0: 1048576", "loss(0,0)=1048576; loss(1,0)=1048576; loss(10000,0)=1048576");
        run("19 of k, cut", "loss(100,1)=524288; loss(100,2)=209715; loss(100,3)=65535; loss(200,1)=699050",
            "loss(1,1)=10381; loss(1,2)=51; loss(1,3)=0");
        run("19 of no load", "loss(0,1)=0; loss(0,2)=0; loss(0,200)=0");
        run("19 -4 load, n below 0", BUSY, "loss(-1,0)=-4; loss(0,-1)=-4; loss(-1,-1)=-4; loss(" + LEAST + ",0)=-4",
            "loss(0," + LEAST + ")=-4");
        run("19 -6 load above 10000", BUSY, "loss(10000,1)=1038194; loss(10001,1)=-6; loss(" + MOST + ",0)=-6");
        run("19 -6 n above 200", BUSY, "loss(10000,200)=0; loss(100,201)=-6; loss(0,201)=-6; loss(0," + MOST + ")=-6");
        run("19 -4 ahead of -6", BUSY, "loss(-1,201)=-4; loss(10001,-1)=-4; loss(10001,201)=-6");
    }

    private static void wanted() {
        run("20 the least n: LOSS is that part", "wanted(100,524288)=1; wanted(100,209715)=2; wanted(100,65535)=3",
            "wanted(1,10381)=1; wanted(1,51)=2");
        run("20 or less", "wanted(100,524287)=2; wanted(100,209714)=3; wanted(1,10380)=2; wanted(1,50)=3; wanted(1,0)=3");
        run("20 a part of 1048576", "wanted(0,1048576)=0; wanted(10000,1048576)=0; wanted(0,1048575)=1",
            "wanted(10000,1048575)=1");
        run("20 a part of 0", "wanted(0,0)=1; wanted(10000,0)=148; loss(10000,148)=0; loss(10000,147)=1");
        run("20 -4", BUSY, "wanted(-1,0)=-4; wanted(0,-1)=-4; wanted(" + LEAST + ",0)=-4; wanted(0," + LEAST + ")=-4");
        run("20 -6 load above 10000", BUSY, "wanted(10000,1038194)=1; wanted(10001,1048576)=-6; wanted(" + MOST + ",0)=-6");
        run("20 -6 part above 1048576", BUSY, "wanted(0,1048577)=-6; wanted(0," + MOST + ")=-6");
        run("20 -4 ahead of -6", BUSY, "wanted(-1,1048577)=-4; wanted(10001,-1)=-4; wanted(10001,1048577)=-6");
    }

    private static void want() {
        run("21 what it was; 0 .. 50", BUSY, "want(0,50)=0; want(0,0)=50; want(0,1)=0; want(15,49)=50; want(15,0)=49",
            "want(3,0)=7; want(4,0)=9; want(5,0)=0");
        run("21 -1 no such quarter", BUSY, "want(0,1)=0; want(15,1)=50; want(16,1)=-1; want(-1,1)=-1",
            "want(" + LEAST + ",1)=-1; want(" + MOST + ",1)=-1");
        run("21 -4", BUSY, "want(3,-1)=-4; want(3," + LEAST + ")=-4; want(3,0)=7");
        run("21 -6", BUSY, "want(3,51)=-6; want(3," + MOST + ")=-6; want(3,50)=7; want(3,51)=-6; want(3,0)=50");
        run("21 -1 ahead of -4 and -6", BUSY, "want(16,-1)=-1; want(-1,51)=-1");
        run("21 the cover stays till the next", BUSY, "begins(3)=7; want(3,0)=7; begins(3)=7; cover(4)=59; begins(3)=0",
            "begins(4)=9");
    }

    private static void cover() {
        run("22 -4", BUSY, "cover(0)=-4; cover(-1)=-4; cover(" + LEAST + ")=-4; begins(12)=50; cover(1)=66; begins(15)=50",
            "begins(3)=7; begins(4)=9");
        run("22 -6", BUSY, "cover(17)=-6; cover(" + MOST + ")=-6; begins(12)=50; cover(16)=50; begins(0)=50; begins(12)=0");
        run("22 none is WANTED", "cover(1)=0; begins(0)=0; begins(15)=0; cover(16)=0; begins(0)=0");
        run("22 shifts begin at the last quarter in which they can", "want(15,3); cover(15)=3; begins(0)=0; begins(1)=3",
            "cover(2)=3; begins(14)=3; begins(1)=0");
        run("22 the most that can be WANTED", Runs.each(16, q -> "want(" + q + ",50)"), "cover(1)=800",
            Runs.each(16, q -> "begins(" + q + ")=50"),
            "cover(16)=50; begins(0)=50; begins(1)=0; cover(15)=100; begins(0)=50; begins(1)=50; cover(8)=100",
            "begins(0)=50; begins(8)=50; begins(9)=0");
        run("22 nothing else is changed by it", BUSY, "cover(7)=59; count(0)=5; count(1)=5; want(3,7)=7; want(15,50)=50",
            "want(4,9)=9");
    }

    private static void begins() {
        run("23 in the latest cover() that was not refused", BUSY, "begins(3)=7; begins(12)=50; cover(0)=-4; cover(17)=-6",
            "begins(3)=7; begins(12)=50; begins(4)=0");
        run("23 -1", BUSY, "begins(0)=0; begins(15)=0; begins(16)=-1; begins(-1)=-1; begins(" + LEAST + ")=-1",
            "begins(" + MOST + ")=-1");
        run("23 the last quarter", "want(15,9); cover(1)=9; begins(15)=9; begins(14)=0");
    }

    private static void helperOf() {
        run("24 -1", BUSY, "helperOf(5,0)=-1; helperOf(-1,0)=-1; helperOf(" + LEAST + ",0)=-1; helperOf(" + MOST + ",0)=-1",
            "helperOf(4,0)=2");
        run("24 -1 ahead of another what", BUSY, "helperOf(5,7)=-1; helperOf(-1,-1)=-1");
        run("24 -9 another what", BUSY, "helperOf(0,-1)=-9; helperOf(0,7)=-9; helperOf(0,8)=-9; helperOf(0,9)=-9",
            "helperOf(0,14)=-9",
            "helperOf(0," + LEAST + ")=-9; helperOf(0," + MOST + ")=-9");
        run("24 1 how many CALLS it has", BUSY, "helperOf(0,1)=0; helperOf(1,1)=1; helperOf(2,1)=0; helperOf(3,1)=0",
            "helperOf(4,1)=2; ticks(1); helperOf(4,1)=3");
        run("24 2 of several the least number; -9", BUSY, "helperOf(0,2)=-9; helperOf(1,2)=1; helperOf(2,2)=-9",
            "helperOf(4,2)=4; pass(4,2,9)=4; helperOf(4,2)=5");
        run("24 3 since which TICK it is so", BUSY, "helperOf(0,3)=0; helperOf(1,3)=4; helperOf(2,3)=5; helperOf(3,3)=0",
            "helperOf(4,3)=2; ticks(1); helperOf(4,3)=6");
        run("24 3 a WRITTEN one DONE is a change", BUSY, "ticks(6)=1; callOf(9,0)=2; helperOf(4,3)=11; helperOf(4,0)=2",
            "helperOf(4,1)=2");
        run("24 4 CALLS that it had DONE", BUSY, "helperOf(0,4)=0; helperOf(1,4)=1; helperOf(4,4)=0; ticks(37)",
            "helperOf(4,4)=3");
        run("24 5 TICKS that passed as it was BUSY", BUSY, "helperOf(0,5)=0; helperOf(1,5)=4; helperOf(2,5)=0",
            "helperOf(3,5)=0; helperOf(4,5)=3; ticks(95); helperOf(1,5)=86");
        run("24 5 (ahead of what they bring)", "helper(1); duty(0); call(0,0,3,9,0); ticks(1); helperOf(0,5)=0; ticks(1)",
            "helperOf(0,5)=1; ticks(2); helperOf(0,0)=1",
            "helperOf(0,5)=3; ticks(1); helperOf(0,5)=3");
        run("24 6 the TICK in which its BREAK is over (-9)", BUSY, "helperOf(0,6)=-9; helperOf(1,6)=-9; helperOf(2,6)=55",
            "helperOf(3,6)=-9; ticks(49); helperOf(2,6)=55; ticks(1); helperOf(2,6)=-9");
        run("24 10 .. 13 GRADES", BUSY, "helperOf(4,10)=0; helperOf(4,13)=3; helperOf(1,11)=2; helperOf(0,10)=1",
            "helperOf(3,10)=1; helperOf(3,12)=0");
    }

    private static void callOf() {
        run("25 -1", BUSY, "callOf(11,0)=-1; callOf(-1,0)=-1; callOf(" + LEAST + ",0)=-1; callOf(" + MOST + ",0)=-1",
            "callOf(10,0)=0");
        run("25 -1 ahead of another what", BUSY, "callOf(11,10)=-1; callOf(-1,-1)=-1");
        run("25 -9 another what", BUSY, "callOf(0,-1)=-9; callOf(0,10)=-9; callOf(0,11)=-9; callOf(0," + LEAST + ")=-9",
            "callOf(0," + MOST + ")=-9");
        run("25 6 its HELPER (ON, DONE; -9)", BUSY, "callOf(0,6)=1; callOf(1,6)=1; callOf(4,6)=4; callOf(2,6)=-9",
            "callOf(3,6)=-9; callOf(6,6)=-9; pass(1,2,5)=1; callOf(1,6)=-9");
        run("25 6 not of one that has LEFT, or is BACK, after it was ON", BUSY, "pass(1,2,5)=1; ring(1,9)=14",
            "callOf(1,6)=-9; leave(1)=1; callOf(1,6)=-9");
        run("25 7 WAITED (WAITING)", BUSY, "callOf(6,7)=0; ticks(9); callOf(6,7)=9; callOf(7,7)=9");
        run("25 7 what it had WAITED as it was ON last", BUSY, "callOf(0,7)=1; callOf(1,7)=3; callOf(4,7)=1; pass(1,1,5)=1",
            "callOf(1,7)=0; leave(8)=1; ticks(2); callOf(1,0)=1; callOf(1,7)=1");
        run("25 7 -9 if it never was", BUSY, "callOf(2,7)=-9; callOf(3,7)=-9; leave(7)=1; callOf(7,7)=-9");
        run("25 7 of one that is BACK, or has LEFT, after it was ON", BUSY, "pass(1,2,5)=1; ticks(2); ring(1,9)",
            "callOf(1,7)=3; leave(1); callOf(1,7)=3");
        run("25 8 the TICK in which it is DONE (ON), or to be rung BACK; -9", BUSY, "callOf(1,8)=79; callOf(4,8)=42",
            "callOf(3,8)=61; callOf(0,8)=-9; callOf(2,8)=-9; callOf(6,8)=-9",
            "ticks(56); callOf(3,0)=0; callOf(3,8)=-9");
        run("25 9 its OWN (KNOWN; -9)", BUSY, "callOf(6,9)=2; callOf(0,9)=-9; callOf(7,9)=-9; callOf(8,9)=-9",
            "callOf(9,9)=-9; ticks(50); callOf(6,0)=2; callOf(6,9)=2; callOf(6,6)=0");
    }

    private static void count() {
        run("26 what there is", BUSY, "count(0)=5; count(1)=5; count(2)=11; count(3)=5; count(4)=3; count(5)=1; count(6)=1",
            "count(7)=1; count(8)=1");
        // of the first ten calls two are WRITTEN, and their helpers take two more each
        run("26 of a full room", FULL, "count(1)=10; count(2)=200; count(3)=200; count(8)=10; ticks(1); count(8)=0",
            "count(3)=186; count(4)=14");
        run("26 11 .. 16 REFUSALS -1 .. -6", BUSY, "rule(4)=-1; duty(0)=-2; duty(0)=-2; ticks(0)=-4; prefer(-1)=-4",
            "cover(0)=-4; loss(0,201)=-6; helper(256)=-6; want(0,51)=-6; ticks(20000)=-6",
            "count(11)=1; count(12)=2; count(13)=0; count(14)=3; count(15)=0; count(16)=4");
        run("26 -8 and -9 are no REFUSALS", BUSY, "who(7)=-9; wait(7)=-8; helperOf(0,7)=-9; callOf(0,10)=-9; count(9)=-9",
            Runs.each(6, w -> "count(" + (11 + w) + ")=0"));
        run("26 -9 for another what", BUSY, "count(-1)=-9; count(9)=-9; count(10)=-9; count(17)=-9",
            "count(" + LEAST + ")=-9; count(" + MOST + ")=-9");
    }
}
