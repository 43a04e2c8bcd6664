/** Each promise by itself: ordinary calls, the edges that the document names, wrong inputs; due answers by hand. */
public final class PromisesTest {
    private static int wrong = 0;
    private static String promise = "";

    public static void main(String[] args) {
        newObject();
        helper();
        grade();
        duty();
        out();
        pause();
        call();
        rule();
        prefer();
        ring();
        pass();
        leave();
        urge();
        ticks();
        waits();
        who();
        why();
        within();
        loss();
        wanted();
        want();
        cover();
        begins();
        helperOf();
        callOf();
        count();
        System.out.println(wrong == 0 ? "all promises hold" : wrong + " answers are not as due");
        if (wrong != 0) System.exit(1);
    }

    private static void due(String what, int got, int want) {
        if (got != want) {
            wrong++;
            System.out.println(promise + ": " + what + " answered " + got + ", due is " + want);
        }
    }

    private static CallRoom room(int... gradesOnDuty) {
        CallRoom x = new CallRoom();
        for (int grades : gradesOnDuty) {
            x.duty(x.helper(grades));
        }
        return x;
    }

    private static void newObject() {
        promise = "1 new";
        CallRoom x = new CallRoom();
        for (int what = 0; what <= 8; what++) {
            due("count(" + what + ")", x.count(what), 0);
        }
        for (int what = 11; what <= 16; what++) {
            due("count(" + what + ")", x.count(what), 0);
        }
        for (int quarter = 0; quarter < 16; quarter++) {
            due("begins", x.begins(quarter), 0);
            due("want", x.want(quarter, 0), 0);
        }
        due("rule at first", x.rule(0), 0);
        due("prefer at first", x.prefer(20), 20);
        CallRoom y = new CallRoom();
        x.helper(0);
        due("another room", y.count(1), 0);
    }

    private static void helper() {
        promise = "2 helper";
        CallRoom x = new CallRoom();
        due("below", x.helper(-1), -4);
        due("above", x.helper(256), -6);
        due("first", x.helper(0), 0);
        due("grades", x.helper(0b11_10_01_00), 1);
        for (int sort = 0; sort < 4; sort++) {
            due("grade of sort " + sort, x.helperOf(1, 10 + sort), sort);
        }
        due("is out", x.helperOf(1, 0), 0);
        x.ticks(7);
        for (int h = 2; h < 10; h++) {
            due("next", x.helper(255), h);
        }
        due("since now", x.helperOf(9, 3), 7);
        due("eleventh", x.helper(0), -6);
        due("eleventh, below", x.helper(-5), -4);
        due("ten", x.count(1), 10);
        due("-4", x.count(14), 2);
        due("-6", x.count(16), 2);
    }

    private static void grade() {
        promise = "3 grade";
        CallRoom x = room(0b11_10_01_00);
        due("no helper", x.grade(1, 0, 1), -1);
        due("no helper below", x.grade(-1, 0, 1), -1);
        due("no sort", x.grade(0, 4, 9), -1);
        due("no sort below", x.grade(0, -1, -1), -1);
        due("below", x.grade(0, 0, -1), -4);
        due("above", x.grade(0, 0, 4), -6);
        due("was 0", x.grade(0, 0, 3), 0);
        due("was 2", x.grade(0, 2, 1), 2);
        due("was 3", x.grade(0, 3, 0), 3);
        due("sort 0", x.helperOf(0, 10), 3);
        due("sort 1", x.helperOf(0, 11), 1);
        due("sort 2", x.helperOf(0, 12), 1);
        due("sort 3", x.helperOf(0, 13), 0);
        x.call(0, 0, 10, 50, 0);
        x.ticks(1);
        due("was 3", x.grade(0, 0, 0), 3);
        due("the call goes on", x.callOf(0, 8), 6);
        due("the call is on", x.callOf(0, 0), 1);
        due("done all the same", x.ticks(5), 1);
        due("-1", x.count(11), 4);
    }

    private static void duty() {
        promise = "4 duty";
        CallRoom x = new CallRoom();
        x.helper(1);
        x.ticks(3);
        due("no helper", x.duty(1), -1);
        due("no helper below", x.duty(-1), -1);
        due("duty", x.duty(0), 1);
        due("free", x.helperOf(0, 0), 1);
        due("since", x.helperOf(0, 3), 3);
        due("not out", x.duty(0), -2);
        x.pause(0, 5);
        due("on a break", x.duty(0), -2);
        x.out(0);
        due("again", x.duty(0), 1);
        due("the break is no more", x.ticks(9), 0);
        due("still since then", x.helperOf(0, 3), 3);
    }

    private static void out() {
        promise = "5 out";
        CallRoom x = room(1, 1);
        due("no helper", x.out(2), -1);
        due("no helper below", x.out(-1), -1);
        x.ticks(2);
        due("free", x.out(0), 1);
        due("is out", x.helperOf(0, 0), 0);
        due("since", x.helperOf(0, 3), 2);
        due("is out already", x.out(0), -2);
        due("break", x.pause(1, 4), 6);
        x.ticks(1);
        due("from a break", x.out(1), 1);
        due("no break", x.helperOf(1, 6), -9);
        due("since", x.helperOf(1, 3), 3);
        x.ticks(5);
        due("stays out", x.helperOf(1, 0), 0);
        x.duty(1);
        x.call(0, 0, 9, 9, 0);
        x.ticks(1);
        due("busy", x.out(1), -2);
        due("-2", x.count(12), 2);
    }

    private static void pause() {
        promise = "6 pause";
        CallRoom x = room(1);
        due("no helper", x.pause(1, 0), -1);
        due("below", x.pause(0, 0), -4);
        due("above", x.pause(0, 5001), -6);
        x.ticks(4);
        due("pause", x.pause(0, 3), 7);
        due("on a break", x.helperOf(0, 0), 3);
        due("since", x.helperOf(0, 3), 4);
        due("over", x.helperOf(0, 6), 7);
        due("state ahead of the number", x.pause(0, 0), -2);
        x.call(0, 0, 4, 9, 0);
        x.ticks(2);
        due("not yet over", x.helperOf(0, 0), 3);
        x.ticks(1);
        due("over, and it takes the call", x.callOf(0, 0), 1);
        due("no break", x.helperOf(0, 6), -9);
        due("busy", x.pause(0, 1), -2);
        x.ticks(4);
        due("free since", x.helperOf(0, 3), 11);
        due("longest", x.pause(0, 5000), 5011);
        x.ticks(5000);
        due("over", x.helperOf(0, 0), 1);
        due("free since", x.helperOf(0, 3), 5011);
        due("shortest", x.pause(0, 1), 5012);
        x.out(0);
        due("out", x.pause(0, 1), -2);
    }

    private static void call() {
        promise = "7 call";
        CallRoom x = new CallRoom();
        due("kind", x.call(4, 0, 0, 0, 0), -1);
        due("kind below", x.call(-1, 0, 1, 1, 0), -1);
        due("sort", x.call(0, 4, 1, 1, 0), -1);
        due("sort below", x.call(0, -1, 1, 1, 0), -1);
        due("own", x.call(1, 0, 1, 1, 0), -1);
        due("own below", x.call(1, 0, 1, 1, -1), -1);
        due("length below", x.call(0, 0, 0, 5001, 0), -4);
        due("patience below", x.call(0, 0, 1001, -1, 0), -4);
        due("length above", x.call(0, 0, 1001, 0, 0), -6);
        due("patience above", x.call(0, 0, 1, 5001, 0), -6);
        x.helper(0);
        x.ticks(5);
        due("first", x.call(0, 3, 1, 0, -7), 0);
        due("own of no known one", x.callOf(0, 9), -9);
        due("greatest", x.call(1, 2, 1000, 5000, 0), 1);
        due("waiting", x.callOf(1, 0), 0);
        due("kind", x.callOf(1, 1), 1);
        due("sort", x.callOf(1, 2), 2);
        due("length", x.callOf(1, 3), 1000);
        due("patience", x.callOf(1, 4), 5000);
        due("came", x.callOf(1, 5), 5);
        due("own", x.callOf(1, 9), 0);
        for (int c = 2; c < 200; c++) {
            due("next", x.call(c % 4, 0, 5, 5, 0), c);
        }
        due("no room", x.call(0, 0, 5, 5, 0), -6);
        due("below ahead of no room", x.call(0, 0, 0, 5, 0), -4);
        due("nobody ahead of no room", x.call(1, 0, 5, 5, 1), -1);
        due("200", x.count(2), 200);
        due("-1", x.count(11), 7);
        due("-4", x.count(14), 3);
        due("-6", x.count(16), 3);
        onlyAsATickPasses();
        leavesByPatience();
    }

    private static void onlyAsATickPasses() {
        CallRoom x = room(1);
        x.call(0, 0, 5, 5, 0);
        due("not given yet", x.callOf(0, 0), 0);
        due("free yet", x.count(8), 1);
        x.ticks(1);
        due("given", x.callOf(0, 0), 1);
    }

    private static void leavesByPatience() {
        CallRoom x = room(1);
        x.call(0, 1, 5, 3, 0);
        x.call(0, 0, 5, 0, 0);
        x.ticks(1);
        due("patience 0 leaves ahead of giving", x.callOf(1, 0), 3);
        x.ticks(2);
        due("has waited its patience", x.callOf(0, 0), 0);
        x.ticks(1);
        due("has waited more", x.callOf(0, 0), 3);
    }

    private static void rule() {
        promise = "8 rule";
        CallRoom x = room(1);
        due("above", x.rule(4), -1);
        due("below", x.rule(-1), -1);
        due("was 0", x.rule(3), 0);
        due("was 3", x.rule(2), 3);
        due("was 2", x.rule(1), 2);
        due("was 1", x.rule(0), 1);
        x.call(0, 0, 4, 90, 0);
        x.call(2, 0, 4, 80, 0);
        x.call(0, 0, 4, 70, 0);
        x.call(3, 0, 4, 70, 0);
        due("0: least number", x.who(0), 0);
        x.rule(1);
        due("1: urgent first", x.who(1), 0);
        x.rule(3);
        due("3: fewest ticks left, then least number", x.who(2), 0);
        x.rule(2);
        due("2: all the same, least number", x.who(0), 0);
        scarceFirst();
        ticksLeftSinceRungBack();
    }

    private static void scarceFirst() {
        CallRoom x = room(0b00_01_01, 0b00_01_00, 0b01_00_01, 0b01_00_00);
        x.rule(2);
        x.call(0, 1, 4, 90, 0);
        x.call(0, 2, 4, 90, 0);
        x.call(0, 0, 4, 90, 0);
        due("2: each sort has two, least number: fewest sorts", x.who(0), 1);
        due("then sort 1 has one", x.who(1), 3);
        due("then sort 0", x.who(2), 0);
        x.pause(3, 50);
        due("sort 2 has one free: first", x.who(1), 2);
        due("then sort 1 and 0 by helper 0, sort 0 is scarcer", x.who(2), 0);
        due("then sort 1", x.who(0), 1);
    }

    private static void ticksLeftSinceRungBack() {
        CallRoom x = new CallRoom();
        x.helper(1);
        x.rule(3);
        x.call(0, 0, 4, 10, 0);
        x.call(0, 0, 4, 9, 0);
        x.ring(1, 4);
        x.ticks(4);
        x.duty(0);
        due("call 0 has fewer ticks left", x.who(0), 0);
        due("call 1 began to wait anew", x.who(1), -9);
    }

    private static void prefer() {
        promise = "9 prefer";
        CallRoom x = room(1, 1);
        due("below", x.prefer(-1), -4);
        due("above", x.prefer(1001), -6);
        due("was 20", x.prefer(1000), 20);
        due("was 1000", x.prefer(2), 1000);
        x.pause(1, 50);
        x.call(1, 0, 4, 90, 1);
        x.ticks(1);
        due("waits for its own", x.callOf(0, 0), 0);
        x.ticks(1);
        due("has waited 2", x.callOf(0, 6), 0);
        x.call(1, 0, 4, 90, 1);
        due("none yet", x.who(1), -9);
        x.leave(1);
        x.ticks(5);
        x.call(1, 0, 4, 90, 1);
        due("none", x.who(2), -9);
        due("was 2", x.prefer(0), 2);
        due("at once", x.who(2), 0);
        ownAfterPrefer();
    }

    private static void ownAfterPrefer() {
        CallRoom x = room(3, 1);
        x.prefer(0);
        x.call(1, 0, 4, 90, 1);
        due("its own still comes ahead of a greater grade", x.who(0), 1);
        x.prefer(20);
        x.call(1, 1, 4, 90, 1);
        x.grade(0, 1, 1);
        x.ticks(19);
        due("own has no grade", x.callOf(1, 0), 0);
        x.ticks(1);
        due("20 waited", x.callOf(1, 6), 0);
        due("what it had waited", x.callOf(1, 7), 20);
    }

    private static void ring() {
        promise = "10 ring";
        CallRoom x = room(1);
        due("no call", x.ring(0, 0), -1);
        due("no call below", x.ring(-1, 1), -1);
        x.ticks(2);
        x.call(0, 0, 4, 3, 0);
        x.call(0, 0, 4, 0, 0);
        due("below", x.ring(0, 0), -4);
        due("above", x.ring(0, 5001), -6);
        due("ring", x.ring(1, 5), 7);
        due("back", x.callOf(1, 0), 4);
        due("when", x.callOf(1, 8), 7);
        due("came", x.callOf(1, 5), 2);
        due("is back: state ahead of the number", x.ring(1, 0), -2);
        x.ticks(4);
        due("not yet", x.callOf(1, 0), 4);
        due("not waiting", x.count(3), 0);
        x.ticks(1);
        due("given in the tick of ringing", x.callOf(1, 0), 1);
        due("waited 0", x.callOf(1, 7), 0);
        due("came as before", x.callOf(1, 5), 2);
        due("on", x.ring(0, 1), -2);
        x.call(0, 1, 4, 9, 0);
        due("longest", x.ring(2, 5000), 5007);
        x.call(0, 1, 4, 9, 0);
        due("shortest", x.ring(3, 1), 8);
        patienceAnewAfterRing();
    }

    private static void patienceAnewAfterRing() {
        CallRoom x = new CallRoom();
        x.call(0, 0, 4, 3, 0);
        x.ticks(2);
        due("ring", x.ring(0, 10), 12);
        x.ticks(13);
        due("waits anew", x.callOf(0, 7), 3);
        due("waits", x.callOf(0, 0), 0);
        x.ticks(1);
        due("left", x.callOf(0, 0), 3);
        due("left", x.ring(0, 1), -2);
    }

    private static void pass() {
        promise = "11 pass";
        CallRoom x = room(0b01_01, 0b10_00);
        due("no call", x.pass(0, 0, 0), -1);
        x.call(1, 0, 8, 30, 0);
        due("not on", x.pass(0, 0, 0), -2);
        due("sort ahead of state", x.pass(0, 4, 0), -1);
        due("sort below", x.pass(0, -1, 0), -1);
        x.ticks(3);
        due("below", x.pass(0, 1, 0), -4);
        due("above", x.pass(0, 1, 1001), -6);
        due("pass", x.pass(0, 1, 1000), 0);
        due("waiting", x.callOf(0, 0), 0);
        due("sort", x.callOf(0, 2), 1);
        due("length", x.callOf(0, 3), 1000);
        due("patience stays", x.callOf(0, 4), 30);
        due("came", x.callOf(0, 5), 0);
        due("no helper", x.callOf(0, 6), -9);
        due("waited 0", x.callOf(0, 7), 0);
        due("no end", x.callOf(0, 8), -9);
        due("own stays", x.callOf(0, 9), 0);
        due("helper is free", x.helperOf(0, 0), 1);
        due("since now", x.helperOf(0, 3), 3);
        due("has none", x.helperOf(0, 1), 0);
        due("nothing done by it", x.helperOf(0, 4), 0);
        x.pause(0, 100);
        due("kept for its own anew", x.why(0), 3);
        x.ticks(20);
        due("to the other", x.callOf(0, 6), 1);
        due("length times 3 by 4", x.callOf(0, 8), 23 + 750);
        passAmongWritten();
    }

    private static void passAmongWritten() {
        CallRoom x = room(0b01);
        x.call(3, 0, 8, 90, 0);
        x.call(3, 0, 8, 90, 0);
        x.ticks(4);
        due("passed on", x.pass(0, 2, 5), 0);
        due("still busy", x.helperOf(0, 0), 2);
        due("with a change", x.helperOf(0, 3), 4);
        due("with the other", x.helperOf(0, 2), 1);
        due("alone", x.helperOf(0, 1), 1);
        due("the other, with the least length", x.pass(1, 2, 1), 0);
        due("length", x.callOf(1, 3), 1);
        due("free", x.helperOf(0, 0), 1);
    }

    private static void leave() {
        promise = "12 leave";
        CallRoom x = room(1);
        due("no call", x.leave(0), -1);
        due("no call below", x.leave(-1), -1);
        x.call(0, 0, 4, 90, 0);
        x.call(0, 0, 4, 90, 0);
        x.call(0, 0, 4, 90, 0);
        x.ticks(1);
        due("on", x.leave(0), -2);
        due("waiting", x.leave(1), 1);
        due("left", x.callOf(1, 0), 3);
        due("left already", x.leave(1), -2);
        x.ring(2, 1);
        due("back", x.leave(2), 1);
        due("no ring", x.callOf(2, 8), -9);
        x.ticks(6);
        due("not rung", x.callOf(2, 0), 3);
        due("done", x.leave(0), -2);
        due("-2", x.count(12), 3);
    }

    private static void urge() {
        promise = "13 urge";
        CallRoom x = room(1, 1);
        due("no call", x.urge(0), -1);
        x.out(1);
        x.call(1, 0, 4, 90, 1);
        x.call(0, 0, 4, 90, 0);
        x.call(2, 0, 4, 90, 0);
        x.call(3, 0, 4, 90, 0);
        due("urgent already", x.urge(2), -2);
        due("written", x.urge(3), -2);
        due("known waits", x.why(0), 3);
        due("known", x.urge(0), 1);
        due("kind", x.callOf(0, 1), 2);
        due("no own", x.callOf(0, 9), -9);
        due("for all now", x.who(0), 0);
        due("call", x.urge(1), 1);
        due("kind", x.callOf(1, 1), 2);
        x.ticks(1);
        due("on", x.urge(0), -2);
        x.call(0, 1, 4, 90, 0);
        x.ring(4, 5);
        due("back", x.urge(4), -2);
        x.leave(4);
        due("left", x.urge(4), -2);
    }

    private static void ticks() {
        promise = "14 ticks";
        CallRoom x = room(0b01, 0b10);
        due("below", x.ticks(0), -4);
        due("below", x.ticks(-2147483648), -4);
        due("above", x.ticks(20001), -6);
        due("above", x.ticks(2147483647), -6);
        x.call(0, 0, 5, 90, 0);
        x.call(0, 0, 5, 90, 0);
        x.call(0, 0, 5, 90, 0);
        due("given", x.ticks(1), 0);
        due("greatest grade first", x.callOf(0, 6), 1);
        due("5 times 3 by 4, cut up", x.callOf(0, 8), 5);
        due("5 times 4 by 4", x.callOf(1, 8), 6);
        due("none yet", x.ticks(3), 0);
        due("one", x.ticks(1), 1);
        due("its helper takes the next", x.callOf(2, 6), 1);
        due("two", x.ticks(9), 2);
        due("tick", x.count(0), 14);
        due("too many in all", x.ticks(19987), -6);
        due("all", x.ticks(19986), 0);
        due("no more", x.ticks(1), -6);
        due("tick", x.count(0), 20000);
        timeOnIsCutUp();
        orderOfATick();
        takesByRank();
        writtenTogether();
    }

    private static void timeOnIsCutUp() {
        int[][] ticksOn = {{1, 2, 3, 4, 5}, {1, 2, 3, 3, 4}, {1, 1, 2, 2, 3}};
        for (int g = 1; g <= 3; g++) {
            for (int length = 1; length <= 5; length++) {
                CallRoom x = room(g);
                x.call(0, 0, length, 9, 0);
                x.ticks(1);
                due("length " + length + ", grade " + g, x.callOf(0, 8), 1 + ticksOn[g - 1][length - 1]);
            }
        }
    }

    private static void orderOfATick() {
        CallRoom x = room(1);
        x.call(0, 0, 5, 90, 0);
        x.ticks(1);
        x.call(0, 0, 5, 5, 0);
        x.call(0, 0, 5, 4, 0);
        due("done in 6", x.ticks(5), 1);
        due("5 waited: given", x.callOf(1, 0), 1);
        due("left ahead of giving", x.callOf(2, 0), 3);
        due("waited", x.callOf(1, 7), 5);
        x.call(0, 0, 5, 90, 0);
        x.ring(3, 5);
        due("done and rung in one tick", x.ticks(5), 1);
        due("given", x.callOf(3, 0), 1);
    }

    private static void takesByRank() {
        CallRoom x = room(0b01_10, 0b00_10, 0b00_10, 0b00_01);
        x.call(0, 0, 4, 90, 0);
        due("grade 2, fewest sorts, least number", x.who(0), 1);
        x.out(1);
        x.duty(1);
        due("free equally long: least number", x.who(0), 1);
        x.out(1);
        x.ticks(1);
        due("helper 2", x.callOf(0, 6), 2);
        x.duty(1);
        x.ticks(9);
        x.call(0, 0, 4, 90, 0);
        due("free longest", x.who(1), 1);
        x.out(1);
        x.duty(1);
        due("free longest", x.who(1), 2);
    }

    private static void writtenTogether() {
        CallRoom x = room(1, 1);
        x.call(3, 0, 40, 90, 0);
        x.call(3, 0, 80, 90, 0);
        x.call(3, 0, 40, 90, 0);
        x.call(0, 0, 40, 90, 0);
        x.ticks(1);
        due("first", x.callOf(0, 6), 0);
        due("free ahead of busy", x.callOf(1, 6), 1);
        due("both busy since now: least number", x.callOf(2, 6), 0);
        due("no call besides written ones", x.callOf(3, 0), 0);
        x.ticks(1);
        x.call(3, 0, 40, 90, 0);
        x.ticks(1);
        due("both busy since 1: least number", x.callOf(4, 6), 0);
        due("a change", x.helperOf(0, 3), 3);
        x.call(3, 0, 40, 90, 0);
        x.call(3, 0, 40, 90, 0);
        x.call(3, 0, 40, 90, 0);
        due("three at most", x.who(5), 1);
        due("three at most", x.who(6), 1);
        due("no room", x.who(7), -9);
        x.ticks(38);
        due("two of the first end, the last one takes the room", x.helperOf(0, 1), 2);
        due("the last one", x.callOf(7, 6), 0);
        x.ticks(1);
        due("a call is left out", x.callOf(3, 0), 0);
    }

    private static void waits() {
        promise = "15 wait";
        CallRoom x = room(1);
        due("no call", x.wait(0), -1);
        due("no call below", x.wait(-1), -1);
        x.call(0, 0, 7, 5000, 0);
        x.call(0, 0, 992, 5000, 0);
        x.call(0, 0, 5, 5000, 0);
        x.call(0, 1, 5, 998, 0);
        x.call(0, 1, 5, 999, 0);
        x.call(0, 1, 5, 1000, 0);
        due("next tick", x.wait(0), 1);
        due("7 more", x.wait(1), 8);
        due("1000", x.wait(2), 1000);
        due("left in 999", x.wait(3), -8);
        due("left in 1000", x.wait(4), -8);
        due("neither", x.wait(5), -9);
        due("nothing is done by asking", x.count(0), 0);
        due("nothing is done by asking", x.count(3), 6);
        x.ticks(1);
        due("on", x.wait(0), -2);
        due("999", x.wait(2), 999);
        x.pass(0, 0, 8);
        due("a call that is passed on comes first again", x.wait(2), -9);
        waitPastTheLastTick();
        waitForOwn();
    }

    private static void waitPastTheLastTick() {
        CallRoom x = room(1);
        x.ticks(20000);
        x.call(0, 0, 7, 5000, 0);
        x.call(0, 0, 7, 3, 0);
        x.call(0, 0, 7, 5000, 0);
        due("as if ticks went on", x.wait(0), 1);
        due("leaves", x.wait(1), -8);
        due("as if ticks went on", x.wait(2), 8);
    }

    private static void waitForOwn() {
        CallRoom x = room(1, 1);
        x.pause(1, 15);
        x.call(1, 0, 7, 5000, 1);
        due("its own comes back", x.wait(0), 15);
        x.out(1);
        due("others from 20 on", x.wait(0), 20);
        x.ring(0, 10);
        due("back", x.wait(0), -2);
        x.ticks(10);
        due("anew", x.wait(0), 20);
    }

    private static void who() {
        promise = "16 who";
        CallRoom x = room(0b10, 0b01_11);
        due("no call", x.who(0), -1);
        x.call(0, 0, 4, 0, 0);
        x.call(0, 1, 4, 90, 0);
        x.call(0, 0, 4, 90, 0);
        due("greatest grade", x.who(0), 1);
        due("taken by the first", x.who(1), -9);
        due("the other helper", x.who(2), 0);
        due("nothing is done by asking", x.count(3), 3);
        x.leave(0);
        due("left", x.who(0), -2);
        due("now it is", x.who(1), 1);
        x.ticks(1);
        due("on", x.who(1), -2);
        due("-2", x.count(12), 2);
    }

    private static void why() {
        promise = "17 why";
        CallRoom x = room(0b01, 0b01);
        due("no call", x.why(0), -1);
        x.call(0, 1, 4, 90, 0);
        due("no grade", x.why(0), 1);
        x.helper(0b01_00);
        due("out does not count", x.why(0), 1);
        x.duty(2);
        due("given", x.why(0), 0);
        x.pause(2, 9);
        due("on a break", x.why(0), 2);
        x.out(2);
        due("out again", x.why(0), 1);
        x.call(1, 0, 4, 90, 1);
        x.call(1, 0, 4, 90, 1);
        due("its own", x.why(1), 0);
        due("its own may, but the other comes first", x.why(2), 4);
        x.pause(1, 90);
        due("waits for its own", x.why(1), 3);
        x.call(0, 0, 4, 90, 0);
        x.call(0, 0, 4, 90, 0);
        due("given", x.why(3), 0);
        due("others come first", x.why(4), 4);
        x.pause(0, 90);
        due("none is free, known or not", x.why(1), 2);
        due("none is free", x.why(4), 2);
        x.ring(4, 3);
        due("back", x.why(4), -2);
        whyOfWritten();
    }

    private static void whyOfWritten() {
        CallRoom x = room(1);
        x.call(3, 0, 90, 90, 0);
        x.call(3, 0, 90, 90, 0);
        x.ticks(1);
        x.call(0, 0, 90, 90, 0);
        x.call(3, 0, 90, 90, 0);
        x.call(3, 0, 90, 90, 0);
        due("a call needs a free one", x.why(2), 2);
        due("room for one more", x.why(3), 0);
        due("others come first", x.why(4), 4);
        x.ticks(1);
        due("no room", x.why(4), 2);
        CallRoom y = room(1);
        y.call(0, 0, 90, 90, 0);
        y.ticks(1);
        y.call(3, 0, 90, 90, 0);
        due("busy with a call", y.why(1), 2);
    }

    private static void within() {
        promise = "18 within";
        CallRoom x = room(1);
        due("below", x.within(-1), -4);
        x.call(0, 0, 4, 90, 0);
        x.call(0, 0, 4, 90, 0);
        x.call(0, 0, 4, 2, 0);
        due("none", x.within(2147483647), 0);
        x.ticks(5);
        due("0", x.within(0), 0);
        due("1", x.within(1), 1);
        due("4", x.within(4), 1);
        due("5", x.within(5), 2);
        x.pass(1, 0, 4);
        x.ticks(9);
        due("as it was first on", x.within(4), 1);
        due("once", x.within(2147483647), 2);
        x.call(0, 0, 4, 90, 0);
        x.ring(3, 6);
        x.ticks(6);
        due("rung back, waited 0", x.within(0), 1);
    }

    private static void loss() {
        promise = "19 loss";
        CallRoom x = new CallRoom();
        due("load below", x.loss(-1, 201), -4);
        due("n below", x.loss(10001, -1), -4);
        due("load above", x.loss(10001, 0), -6);
        due("n above", x.loss(0, 201), -6);
        due("no helpers", x.loss(10000, 0), 1048576);
        due("no load, no helpers", x.loss(0, 0), 1048576);
        due("no load", x.loss(0, 1), 0);
        due("1 by 1", x.loss(100, 1), 524288);
        due("1 by 2: a fifth, cut", x.loss(100, 2), 209715);
        due("2 by 1: two thirds, cut", x.loss(200, 1), 699050);
        due("100 by 1", x.loss(10000, 1), 1038194);
        due("least load", x.loss(1, 1), 10381);
        due("most helpers", x.loss(10000, 200), 0);
    }

    private static void wanted() {
        promise = "20 wanted";
        CallRoom x = new CallRoom();
        due("load below", x.wanted(-1, 1048577), -4);
        due("part below", x.wanted(10001, -1), -4);
        due("load above", x.wanted(10001, 0), -6);
        due("part above", x.wanted(0, 1048577), -6);
        due("all may be lost", x.wanted(10000, 1048576), 0);
        due("nearly all", x.wanted(0, 1048575), 1);
        due("none lost of none", x.wanted(0, 0), 1);
        due("half", x.wanted(100, 524288), 1);
        due("less than half", x.wanted(100, 524287), 2);
        due("a fifth, cut", x.wanted(100, 209715), 2);
        due("less", x.wanted(100, 209714), 3);
        int most = x.wanted(10000, 0);
        due("with that many none is lost", x.loss(10000, most), 0);
        due("with one fewer some are", Math.min(1, x.loss(10000, most - 1)), 1);
        due("-4", x.count(14), 2);
        due("-6", x.count(16), 2);
    }

    private static void want() {
        promise = "21 want";
        CallRoom x = new CallRoom();
        due("quarter", x.want(16, -1), -1);
        due("quarter below", x.want(-1, 51), -1);
        due("below", x.want(0, -1), -4);
        due("above", x.want(15, 51), -6);
        due("was 0", x.want(15, 50), 0);
        due("was 50", x.want(15, 0), 50);
        due("was 0", x.want(15, 7), 0);
        due("other quarter", x.want(14, 0), 0);
    }

    private static void cover() {
        promise = "22 cover";
        CallRoom x = new CallRoom();
        due("below", x.cover(0), -4);
        due("above", x.cover(17), -6);
        due("none wanted", x.cover(1), 0);
        int[] wants = {0, 2, 1, 3, 0, 0, 0, 0, 0, 0, 0, 0, 0, 1, 0, 2};
        for (int q = 0; q < 16; q++) {
            x.want(q, wants[q]);
        }
        due("by single quarters", x.cover(1), 9);
        beginsAre(x, wants);
        due("by threes", x.cover(3), 5);
        beginsAre(x, 0, 2, 0, 1, 0, 0, 0, 0, 0, 0, 0, 0, 0, 2, 0, 0);
        due("by fifteens", x.cover(15), 3);
        beginsAre(x, 0, 3);
        due("by all", x.cover(16), 3);
        beginsAre(x, 3);
        againstEveryWay();
    }

    private static void beginsAre(CallRoom x, int... begins) {
        for (int q = 0; q < 16; q++) {
            due("begins(" + q + ")", x.begins(q), q < begins.length ? begins[q] : 0);
        }
    }

    /** All ways that begin at most 2 in a quarter are gone through, from the latest on; wants are up to 2. */
    private static void againstEveryWay() {
        int turn = 12345;
        for (int round = 0; round < 60; round++) {
            int length = 8 + round % 9;
            CallRoom x = new CallRoom();
            int[] wants = new int[16];
            for (int q = 0; q < 16; q++) {
                turn = turn * 1103515245 + 12345;
                wants[q] = Math.max(0, (turn >>> 16) % 5 - 2);
                x.want(q, wants[q]);
            }
            int[] best = bestOfEveryWay(wants, length);
            due("cover(" + length + ")", x.cover(length), best[16]);
            for (int q = 0; q < 16; q++) {
                due("cover(" + length + ") begins(" + q + ")", x.begins(q), best[q]);
            }
        }
    }

    private static int[] bestOfEveryWay(int[] wants, int length) {
        int places = 17 - length;
        int ways = 1;
        for (int p = 0; p < places; p++) {
            ways *= 3;
        }
        int[] best = null;
        for (int way = 0; way < ways; way++) {
            int[] begins = new int[17];
            int rest = way;
            for (int p = places - 1; p >= 0; p--) {
                begins[p] = rest % 3;
                begins[16] += rest % 3;
                rest /= 3;
            }
            // ways come with the fewest in the first quarters first, so the first of the fewest is the latest
            if (covers(begins, wants, length) && (best == null || begins[16] < best[16])) best = begins;
        }
        return best;
    }

    private static boolean covers(int[] begins, int[] wants, int length) {
        for (int q = 0; q < 16; q++) {
            int there = 0;
            for (int p = Math.max(0, q - length + 1); p <= q; p++) {
                there += begins[p];
            }
            if (there < wants[q]) return false;
        }
        return true;
    }

    private static void begins() {
        promise = "23 begins";
        CallRoom x = new CallRoom();
        due("quarter", x.begins(16), -1);
        due("quarter below", x.begins(-1), -1);
        due("without a cover", x.begins(3), 0);
        x.want(3, 4);
        due("without a cover", x.begins(3), 0);
        x.cover(2);
        due("begins", x.begins(3), 4);
        x.cover(17);
        due("a refused one changes nothing", x.begins(3), 4);
        x.want(3, 1);
        due("till the next cover", x.begins(3), 4);
        x.cover(16);
        due("the latest", x.begins(3), 0);
        due("the latest", x.begins(0), 1);
    }

    private static void helperOf() {
        promise = "24 helperOf";
        CallRoom x = room(0b01, 0b01);
        due("no helper", x.helperOf(2, 0), -1);
        due("no helper, another what", x.helperOf(-1, 99), -1);
        for (int what : new int[] {-1, 7, 8, 9, 14, -2147483648, 2147483647}) {
            due("another what", x.helperOf(0, what), -9);
        }
        due("no call", x.helperOf(0, 2), -9);
        due("no break", x.helperOf(0, 6), -9);
        x.out(1);
        for (int length : new int[] {9, 5, 7}) {
            x.call(3, 0, length, 90, 0);
        }
        x.ticks(3);
        due("busy", x.helperOf(0, 0), 2);
        due("three", x.helperOf(0, 1), 3);
        due("least number", x.helperOf(0, 2), 0);
        due("since", x.helperOf(0, 3), 1);
        due("done", x.helperOf(0, 4), 0);
        due("busy ticks", x.helperOf(0, 5), 2);
        x.ticks(3);
        due("since one is done", x.helperOf(0, 3), 6);
        due("two", x.helperOf(0, 1), 2);
        due("done", x.helperOf(0, 4), 1);
        x.ticks(20);
        due("free since", x.helperOf(0, 3), 10);
        due("done", x.helperOf(0, 4), 3);
        due("busy ticks", x.helperOf(0, 5), 9);
        due("none of the other", x.helperOf(1, 5), 0);
        due("grade", x.helperOf(0, 10), 1);
        due("grade", x.helperOf(0, 13), 0);
        due("-9 is no refusal", x.count(11) + x.count(12) + x.count(14) + x.count(16), 2);
    }

    private static void callOf() {
        promise = "25 callOf";
        CallRoom x = room(0b10);
        due("no call", x.callOf(0, 0), -1);
        due("no call, another what", x.callOf(-1, 99), -1);
        x.ticks(3);
        x.call(1, 0, 6, 40, 0);
        due("another what", x.callOf(0, 10), -9);
        due("another what", x.callOf(0, -1), -9);
        due("no helper yet", x.callOf(0, 6), -9);
        due("waited", x.callOf(0, 7), 0);
        due("no end yet", x.callOf(0, 8), -9);
        x.ring(0, 2);
        due("never on", x.callOf(0, 7), -9);
        due("rung", x.callOf(0, 8), 5);
        x.pause(0, 4);
        x.ticks(3);
        due("waited since rung", x.callOf(0, 7), 1);
        due("no ring, no end", x.callOf(0, 8), -9);
        x.ticks(2);
        due("on", x.callOf(0, 0), 1);
        due("with", x.callOf(0, 6), 0);
        due("had waited", x.callOf(0, 7), 2);
        due("6 times 3 by 4, cut up", x.callOf(0, 8), 12);
        x.ticks(5);
        due("done", x.callOf(0, 0), 2);
        due("with", x.callOf(0, 6), 0);
        due("had waited", x.callOf(0, 7), 2);
        due("no end", x.callOf(0, 8), -9);
        due("own", x.callOf(0, 9), 0);
        lastWaitedOfOneThatLeft();
    }

    private static void lastWaitedOfOneThatLeft() {
        CallRoom x = room(1);
        x.call(0, 0, 6, 4, 0);
        x.ticks(2);
        x.pass(0, 1, 6);
        x.ticks(4);
        due("waits", x.callOf(0, 7), 4);
        x.ticks(1);
        due("left", x.callOf(0, 0), 3);
        due("as it was on last", x.callOf(0, 7), 1);
        due("with nobody", x.callOf(0, 6), -9);
        x.call(0, 1, 6, 1, 0);
        x.ticks(2);
        due("never on", x.callOf(1, 7), -9);
    }

    private static void count() {
        promise = "26 count";
        CallRoom x = room(1, 1, 1);
        x.out(2);
        for (int i = 0; i < 5; i++) {
            x.call(0, i < 2 ? 0 : 1, 4, 90, 0);
        }
        x.ring(3, 9);
        x.leave(4);
        x.ticks(1);
        x.call(0, 1, 4, 90, 0);
        x.ticks(1);
        int[] now = {2, 3, 6, 2, 2, 0, 1, 1, 0};
        for (int what = 0; what < now.length; what++) {
            due("count(" + what + ")", x.count(what), now[what]);
        }
        x.ticks(3);
        due("done", x.count(5), 2);
        due("free", x.count(8), 2);
        for (int what : new int[] {-1, 9, 10, 17, -2147483648, 2147483647}) {
            due("another what", x.count(what), -9);
        }
        x.rule(9);
        x.duty(0);
        x.duty(1);
        x.prefer(-1);
        x.prefer(-1);
        x.prefer(-1);
        x.cover(99);
        int[] refusals = {1, 2, 0, 3, 0, 1};
        for (int i = 0; i < refusals.length; i++) {
            due("count(" + (11 + i) + ")", x.count(11 + i), refusals[i]);
        }
    }
}
