import java.math.BigInteger;

/**
 * The sentences of the document's terms, each by a run of its own: who may take whom, who comes first where several
 * fit, what happens in the very tick in which a time is over, and what is told at the ends of the ranges.
 */
public final class TermsTest {
    private static final Runs RUNS = new Runs();

    public static void main(String[] args) {
        timeOn();
        together();
        may();
        mayKnown();
        waited();
        rules();
        scarcest();
        fewestTicksLeft();
        whichHelper();
        longest();
        onlyAsTicksPass();
        doneInATick();
        breaksInATick();
        backInATick();
        leftInATick();
        severalInATick();
        waits();
        waitsGoOn();
        losses();
        wanteds();
        covers();
        RUNS.end(0, 0);
    }

    private static void run(String sentence, String... texts) {
        RUNS.run("0 " + sentence, texts);
    }

    private static void timeOn() {
        int[] lengths = {1, 2, 3, 4, 5, 997, 998, 999, 1000};
        int[][] ticksOn = {
            {1, 2, 3, 4, 5, 997, 998, 999, 1000}, {1, 2, 3, 3, 4, 748, 749, 750, 750}, {1, 1, 2, 2, 3, 499, 499, 500, 500}};
        for (int g = 1; g <= 3; g++) {
            for (int i = 0; i < lengths.length; i++) {
                int on = ticksOn[g - 1][i];
                run("LENGTH times (5 less g) by 4 TICKS, cut up", "helper(" + g + "); duty(0)",
                    "call(0,0," + lengths[i] + ",9,0); ticks(1)=0",
                    "callOf(0,0)=1; callOf(0,8)=" + (1 + on), on > 1 ? "ticks(" + (on - 1) + ")=0" : "",
                    "callOf(0,0)=1; ticks(1)=1; callOf(0,0)=2");
            }
        }
        run("GRADE g for its SORT, not for another", "helper(13); duty(0); call(0,0,100,9,0); ticks(1); callOf(0,8)=101",
            "pass(0,1,100)=0; ticks(1); callOf(0,8)=52");
    }

    private static void together() {
        run("a HELPER has one CALL at a time", "helper(1); duty(0); call(0,0,5,90,0); call(0,0,5,90,0); ticks(1)",
            "helperOf(0,1)=1; callOf(1,0)=0; ticks(5)=1; callOf(1,6)=0");
        run("of WRITTEN ones up to 3 together", "helper(1); duty(0)", Runs.each(4, c -> "call(3,0,5,90,0)"), "ticks(1)",
            "helperOf(0,1)=3; callOf(2,0)=1; callOf(3,0)=0; why(3)=2");
        run("a fourth, once one of three is DONE", "helper(1); duty(0); call(3,0,9,90,0); call(3,0,5,90,0)",
            "call(3,0,9,90,0); call(3,0,9,90,0); ticks(1)",
            "ticks(4)=0; callOf(3,0)=0; ticks(1)=1; callOf(3,0)=1; helperOf(0,1)=3; helperOf(0,2)=0");
        run("a fourth, once one of three is passed on", "helper(1); duty(0)",
            Runs.each(4, c -> "call(3,0,9,90,0)"), "ticks(1); why(3)=2; pass(1,1,9)=0; why(3)=0; ticks(1); callOf(3,0)=1");
        run("no other one besides: CALL", "helper(1); duty(0); call(3,0,5,90,0); call(0,0,5,90,0); ticks(1); callOf(0,0)=1",
            "callOf(1,0)=0; ticks(4); callOf(1,0)=0; ticks(1); callOf(1,0)=1");
        run("no other one besides: KNOWN, by its OWN", "helper(1); duty(0); call(3,0,5,90,0); call(1,0,5,90,0); ticks(1)",
            "callOf(1,0)=0; ticks(5)=1; callOf(1,0)=1");
        run("no other one besides: URGENT", "helper(1); duty(0); rule(1); call(3,0,5,90,0); ticks(1); call(2,0,5,90,0)",
            "ticks(1); callOf(1,0)=0; ticks(4)=1; callOf(1,0)=1");
        run("no WRITTEN one besides a CALL", "helper(1); duty(0); call(0,0,5,90,0); call(3,0,5,90,0); ticks(1)",
            "callOf(1,0)=0; why(1)=2");
        run("no WRITTEN one besides a KNOWN one", "helper(1); duty(0); call(1,0,5,90,0); call(3,0,5,90,0); ticks(1)",
            "callOf(1,0)=0; why(1)=2");
        run("no WRITTEN one besides an URGENT one", "helper(1); duty(0); call(2,0,5,90,0); call(3,0,5,90,0); ticks(1)",
            "callOf(1,0)=0; why(1)=2");
        run("WRITTEN ones of several SORTS together", "helper(21); duty(0); call(3,0,5,90,0); call(3,1,5,90,0)",
            "call(3,2,5,90,0); ticks(1); helperOf(0,1)=3");
        run("a WRITTEN one after a CALL", "helper(1); duty(0); call(0,0,2,90,0); call(3,0,5,90,0); call(3,0,5,90,0)",
            "ticks(1); ticks(2)=1; helperOf(0,1)=2");
    }

    private static void may() {
        run("MAY: its GRADE for the SORT is above 0", "helper(4); duty(0); call(0,0,5,90,0); who(0)=-9; ticks(1)",
            "callOf(0,0)=0; grade(0,0,1); who(0)=0; ticks(1); callOf(0,0)=1");
        run("MAY: above 0 also for a WRITTEN one besides others", "helper(1); duty(0); call(3,0,50,90,0); ticks(1)",
            "call(3,1,5,90,0); who(1)=-9; why(1)=1; grade(0,1,1); who(1)=0");
        run("MAY: not OUT", "helper(1); call(0,0,5,90,0); call(3,0,5,90,0); call(1,0,5,90,0); who(0)=-9; who(1)=-9",
            "who(2)=-9; ticks(1); count(3)=3");
        run("MAY: not on a BREAK", "helper(1); duty(0); pause(0,9); call(0,0,5,90,0); call(3,0,5,90,0); call(1,0,5,90,0)",
            "who(0)=-9; who(1)=-9; who(2)=-9; ticks(1); count(3)=3");
        run("MAY: FREE, all KINDS", "helper(1); duty(0); call(0,0,5,90,0); who(0)=0; leave(0); call(1,0,5,90,0); who(1)=0",
            "leave(1); call(2,0,5,90,0); who(2)=0; leave(2); call(3,0,5,90,0); who(3)=0");
        run("MAY: a CALL that is WAITING", "helper(1); duty(0); call(0,0,5,90,0); ring(0,9); call(0,0,5,90,0); leave(1)",
            "ticks(3); count(8)=1; count(4)=0");
    }

    private static void mayKnown() {
        String two = "helper(1); helper(1); duty(0); duty(1); pause(1,5000);";
        run("MAY: a KNOWN one that has WAITED less than PREFER", two, "call(1,0,5,90,1); ticks(19); callOf(0,7)=19",
            "callOf(0,0)=0; who(0)=-9; why(0)=3; ticks(1); callOf(0,6)=0; callOf(0,7)=20");
        run("MAY: PREFER 0", two, "prefer(0); call(1,0,5,90,1); who(0)=0; ticks(1); callOf(0,6)=0");
        run("MAY: PREFER 1", two, "prefer(1); call(1,0,5,90,1); who(0)=-9; ticks(1); callOf(0,6)=0");
        run("MAY: PREFER 2", two, "prefer(2); call(1,0,5,90,1); ticks(1); callOf(0,0)=0; ticks(1); callOf(0,6)=0");
        run("MAY: PREFER 1000", two, "prefer(1000); call(1,0,5,5000,1); ticks(999); callOf(0,7)=999; callOf(0,0)=0",
            "who(0)=-9; ticks(1); callOf(0,6)=0; callOf(0,7)=1000");
        run("MAY: PREFER as it is now", two, "call(1,0,5,90,1); ticks(5); who(0)=-9; prefer(5); who(0)=0; prefer(6)",
            "who(0)=-9; why(0)=3");
        run("MAY: only if it is its OWN", two, "call(1,0,5,90,0); who(0)=0; ticks(1); callOf(0,6)=0");
        run("MAY: its OWN without a GRADE can't", two, "grade(0,0,0); out(1); duty(1); call(1,0,5,90,0); who(0)=-9",
            "ticks(19); callOf(0,0)=0; ticks(1); callOf(0,6)=1");
        run("MAY: its OWN comes ahead after PREFER too", "helper(1); helper(3); duty(0); duty(1); prefer(0)",
            "call(1,0,5,90,0); who(0)=0");
        run("MAY: PREFER anew as it is rung BACK", two, "call(1,0,5,90,1); ticks(19); ring(0,1); ticks(1); callOf(0,7)=0",
            "callOf(0,0)=0; ticks(19); callOf(0,0)=0; ticks(1); callOf(0,6)=0");
        run("MAY: PREFER anew as it is passed on", "helper(1); helper(1); duty(0); duty(1); call(1,0,5,90,1); ticks(1)",
            "callOf(0,6)=1; pass(0,0,9)=1; pause(1,99); ticks(19); callOf(0,0)=0; ticks(1); callOf(0,6)=0");
        run("MAY: PREFER binds no other KIND", two, "call(0,0,5,90,1); who(0)=0; leave(0); call(2,0,5,90,1); who(1)=0",
            "leave(1); call(3,0,5,90,1); who(2)=0");
        run("MAY: an URGENT one that was KNOWN", two, "call(1,0,5,90,1); who(0)=-9; urge(0); who(0)=0");
    }

    private static void waited() {
        run("WAITED: TICK less that of its coming", "ticks(7); call(0,0,5,90,0); callOf(0,7)=0; ticks(1); callOf(0,7)=1",
            "ticks(89); callOf(0,7)=90; callOf(0,5)=7");
        run("WAITED: of one rung BACK, since it is WAITING again", "call(0,0,5,90,0); ticks(7); ring(0,3); ticks(3)",
            "callOf(0,7)=0; ticks(4); callOf(0,7)=4; callOf(0,5)=0");
        run("WAITED: of one passed on, since it is WAITING again", "helper(1); duty(0); call(0,0,50,90,0); ticks(7)",
            "pass(0,1,5); callOf(0,7)=0; ticks(4); callOf(0,7)=4; callOf(0,5)=0");
    }

    private static void rules() {
        String calls = "helper(1); duty(0); call(0,0,5,90,0); call(3,0,5,50,0); call(2,0,5,70,0); call(2,0,5,60,0);"
            + "call(1,0,5,80,0);";
        run("RULE 0: the one of the least number", calls, "who(0)=0; who(1)=-9; leave(0); who(1)=0; leave(1); who(2)=0",
            "leave(2); who(3)=0; leave(3); who(4)=0");
        run("RULE 1: URGENT ones first, then the least number", calls, "rule(1); who(2)=0; leave(2); who(3)=0; leave(3)",
            "who(0)=0; leave(0); who(1)=0; leave(1); who(4)=0");
        run("RULE 1: one that was urged", calls, "rule(1); leave(2); leave(3); who(0)=0; urge(4); who(4)=0; urge(0)",
            "who(0)=0");
        run("RULE 3: the fewest TICKS left", calls, "rule(3); who(1)=0; leave(1); who(3)=0; leave(3); who(2)=0; leave(2)",
            "who(4)=0; leave(4); who(0)=0");
        run("GIVING: of all that some HELPER may take", "helper(1); duty(0); rule(1); call(2,1,5,1,0); call(0,0,5,90,0)",
            "who(1)=0; rule(3); who(1)=0; rule(2); who(1)=0; rule(0); who(1)=0");
        run("GIVING: a KNOWN one that waits for its OWN does not hinder others", "helper(1); helper(1); duty(0)",
            "call(1,0,5,90,1); call(0,0,5,90,0); who(0)=-9; who(1)=0; ticks(1); callOf(1,6)=0");
        run("GIVING: nor does one whose OWN is BUSY with WRITTEN ones", "helper(1); helper(4); duty(0); duty(1)",
            "call(3,0,50,90,0); ticks(1); call(1,0,5,90,0); call(0,1,5,90,0); who(1)=-9; who(2)=1; ticks(1); callOf(2,6)=1");
        run("GIVING: a WRITTEN one without room does not hinder others", "helper(1); helper(4); duty(0); duty(1)",
            Runs.each(4, c -> "call(3,0,50,90,0)"), "call(0,1,5,90,0); who(3)=-9; who(4)=1; ticks(1); callOf(3,0)=0",
            "callOf(4,6)=1");
        run("GIVING: again and again, till there is none", "helper(1); helper(1); helper(1); duty(0); duty(1); duty(2)",
            Runs.each(4, c -> "call(0,0,5,90,0)"),
            "ticks(1); callOf(0,6)=0; callOf(1,6)=1; callOf(2,6)=2; callOf(3,0)=0; count(8)=0");
        run("RULES go on with the next TICK", calls, "ticks(1); callOf(0,0)=1; rule(1); ticks(5); callOf(2,0)=1; rule(3)",
            "ticks(5); callOf(1,0)=1; rule(0); ticks(5); callOf(3,0)=1");
    }

    private static void scarcest() {
        run("RULE 2: fewest HELPERS have a GRADE", "helper(9); helper(4); duty(0); duty(1); call(0,1,5,90,0)",
            "call(0,0,5,90,0); who(0)=0; who(1)=-9; rule(2); who(0)=1; who(1)=0");
        run("RULE 2: then the least number", "helper(5); duty(0); rule(2); call(0,1,5,90,0); call(0,0,5,90,0); who(0)=0",
            "who(1)=-9; leave(0); who(1)=0");
        run("RULE 2: counted anew after each", "helper(1); helper(7); helper(20); duty(0); duty(1); duty(2); rule(2)",
            "call(0,2,5,90,0); call(0,0,5,90,0); call(0,1,5,90,0)",
            "who(0)=2; who(1)=0; who(2)=1; rule(0); who(1)=1; who(2)=-9");
        String three = "helper(6); helper(4); helper(1); duty(0); duty(2); rule(2); call(0,0,5,90,0); call(0,1,5,90,0);";
        run("RULE 2: HELPERS that are FREE, not OUT", three, "who(1)=0; who(0)=2; duty(1); who(0)=0; who(1)=1");
        run("RULE 2: HELPERS that are FREE, not on a BREAK", three, "duty(1); who(0)=0; pause(1,9); who(1)=0; who(0)=2");
        run("RULE 2: HELPERS that are FREE, not BUSY", "helper(6); helper(20); helper(1); duty(0); duty(1); duty(2)",
            "rule(2); call(0,2,50,90,0); ticks(1); callOf(0,6)=1",
            "call(0,0,5,90,0); call(0,1,5,90,0); who(2)=0; who(1)=2");
        run("RULE 2: HELPERS that are FREE, not BUSY with room", "helper(6); helper(20); helper(1); duty(0); duty(1)",
            "duty(2); rule(2); call(3,2,50,90,0); ticks(1); callOf(0,6)=1",
            "call(0,0,5,90,0); call(0,1,5,90,0); who(2)=0; who(1)=2");
        run("RULE 2: none FREE is fewest, for a WRITTEN one", "helper(9); helper(4); duty(0); duty(1); rule(2)",
            "call(3,0,90,90,0); ticks(1); callOf(0,6)=0",
            "call(3,1,5,90,0); call(3,0,5,90,0); call(3,0,5,90,0); who(1)=1; who(2)=0; who(3)=0; rule(0); who(1)=0",
            "who(2)=0; who(3)=-9");
    }

    private static void fewestTicksLeft() {
        String came = "helper(1); rule(3); call(0,0,5,50,0); ticks(10); duty(0);";
        run("RULE 3: fewer left", came, "call(0,0,5,39,0); who(0)=-9; who(1)=0");
        run("RULE 3: as many left, then the least number", came, "call(0,0,5,40,0); who(0)=0; who(1)=-9");
        run("RULE 3: more left", came, "call(0,0,5,41,0); who(0)=0; who(1)=-9");
        run("RULE 3: none left", came, "call(0,0,5,0,0); who(1)=0; who(0)=-9; wait(1)=-8; wait(0)=1");
        run("RULE 3: rung BACK, all are left again", "helper(1); rule(3); call(0,0,5,20,0); call(0,0,5,25,0); ring(0,6)",
            "ticks(6); duty(0); who(1)=0; who(0)=-9");
        run("RULE 3: passed on, all are left again", "helper(5); rule(3); duty(0); call(0,0,50,20,0); call(0,1,5,30,0)",
            "ticks(11); callOf(0,0)=1; pass(0,0,5); callOf(1,7)=11; who(1)=0; who(0)=-9");
        run("RULE 3: KIND is not looked at", "helper(1); duty(0); rule(3); call(2,0,5,50,0); call(0,0,5,49,0); who(1)=0",
            "who(0)=-9");
    }

    private static void whichHelper() {
        run("It gets: its OWN, ahead of a greater GRADE", "helper(3); helper(1); duty(0); duty(1); call(1,0,5,90,1)",
            "who(0)=1; ticks(1); callOf(0,6)=1");
        run("It gets: its OWN, if that is one of them", "helper(3); helper(1); duty(0); prefer(0); call(1,0,5,90,1)",
            "who(0)=0");
        run("It gets: the greatest GRADE, ahead of fewest SORTS", "helper(1); helper(86); helper(1); duty(0); duty(1)",
            "duty(2); call(0,0,5,90,0); who(0)=1");
        run("It gets: the greatest GRADE for its SORT", "helper(13); helper(6); duty(0); duty(1); call(0,0,5,90,0)",
            "who(0)=1; call(0,1,5,90,0); who(1)=0");
        run("It gets: the greatest GRADE, BUSY ahead of FREE", "helper(2); helper(1); duty(0); duty(1); call(3,0,50,90,0)",
            "ticks(1); callOf(0,6)=0; call(3,0,5,90,0); who(1)=0");
        run("It gets: the fewest SORTS of GRADE above 0", "helper(21); helper(13); helper(85); duty(0); duty(1); duty(2)",
            "call(0,0,5,90,0); who(0)=1");
        for (int sort = 1; sort <= 3; sort++) {
            for (int g = 1; g <= 3; g++) {
                int two = 1 + (g << 2 * sort);
                run("It gets: a SORT " + sort + " of GRADE " + g + " counts as any", "helper(" + two + "); helper(1)",
                    "duty(0); duty(1); call(0,0,5,90,0); who(0)=1; grade(0," + sort + ",0); who(0)=0");
            }
        }
        run("It gets: the fewest SORTS, as they are now", "helper(5); helper(21); duty(0); duty(1); call(0,0,5,90,0)",
            "who(0)=0; grade(1,1,0); grade(1,2,0); who(0)=1; grade(0,1,0); who(0)=0");
        run("It gets: the fewest SORTS, BUSY ahead of FREE", "helper(1); helper(5); duty(0); duty(1); call(3,0,50,90,0)",
            "ticks(1); callOf(0,6)=0; call(3,0,5,90,0); who(1)=0");
        run("It gets: the fewest SORTS, ahead of the longest FREE", "helper(5); helper(1); duty(0); ticks(9); duty(1)",
            "call(0,0,5,90,0); who(0)=1");
        run("It gets: FREE, ahead of BUSY ones", "helper(1); helper(1); duty(0); call(3,0,50,90,0); ticks(9); duty(1)",
            "helperOf(0,3)=1; helperOf(1,3)=9; call(3,0,5,90,0); who(1)=1");
        run("It gets: then the least number", "helper(0); helper(1); helper(1); helper(1); duty(3); duty(2); duty(1)",
            "duty(0); call(0,0,5,90,0); who(0)=1");
    }

    private static void longest() {
        String three = "helper(1); helper(1); helper(1);";
        run("longest: FREE since a duty", three, "duty(2); ticks(1); duty(0); duty(1); call(0,0,5,90,0); who(0)=2; out(2)",
            "who(0)=0");
        run("longest: FREE since a BREAK", three, "duty(0); pause(0,3); ticks(2); duty(1); ticks(1); helperOf(0,3)=3",
            "call(0,0,5,90,0); who(0)=1");
        run("longest: FREE since a CALL was DONE", three, "duty(0); call(0,0,3,90,0); ticks(1); ticks(2); duty(1)",
            "ticks(1); helperOf(0,3)=4; call(0,0,5,90,0); who(1)=1");
        run("longest: FREE since a CALL was passed on", three, "duty(0); call(0,0,9,90,0); ticks(3); duty(1); ticks(1)",
            "pass(0,0,9)=0; who(0)=1");
        run("longest: FREE for as long, the least number", three, "duty(0); pause(0,3); ticks(3); duty(2); duty(1)",
            "call(0,0,5,90,0); who(0)=0; call(0,0,5,90,0); who(1)=1");
        String two = "helper(1); helper(1); duty(0); call(3,0,50,90,0); ticks(1); duty(1); call(3,0,50,90,0); ticks(1);"
            + "callOf(1,6)=1; helperOf(0,3)=1; helperOf(1,3)=2;";
        run("longest: BUSY without a change", two, "call(3,0,9,90,0); who(2)=0; ticks(1); callOf(2,6)=0");
        run("longest: BUSY, a new one is a change", two, "call(3,0,9,90,0); ticks(1); callOf(2,6)=0; helperOf(0,3)=3",
            "call(3,0,9,90,0); who(3)=1; ticks(1); callOf(3,6)=1; helperOf(1,3)=4; call(3,0,9,90,0); who(4)=0");
        run("longest: BUSY, one DONE is a change", "helper(1); helper(1); duty(0); duty(1); call(3,0,9,90,0)",
            "call(3,0,50,90,0); call(3,0,50,90,0); ticks(1); callOf(2,6)=0; ticks(9)=1",
            "helperOf(0,3)=10; helperOf(1,3)=1; call(3,0,9,90,0); who(3)=1");
        run("longest: BUSY, one passed on is a change", "helper(1); helper(1); duty(0); duty(1)",
            Runs.each(3, c -> "call(3,0,50,90,0)"), "ticks(1); callOf(2,6)=0; ticks(1); pass(0,1,5)=0; helperOf(0,3)=2",
            "call(3,0,9,90,0); who(3)=1");
        run("longest: BUSY, a new GRADE is none", two, "grade(0,1,1); grade(0,1,0); helperOf(0,3)=1; call(3,0,9,90,0)",
            "who(2)=0");
    }

    private static void onlyAsTicksPass() {
        String ready = "helper(1); helper(1); duty(0); call(0,0,50,90,0);";
        String[] calls = {"helper(1)", "grade(0,0,2)", "duty(1)", "call(2,0,9,9,0)", "rule(1)", "prefer(0)", "urge(0)",
            "wait(0)", "who(0)", "why(0)",
            "within(9)", "loss(1,1)", "wanted(1,1)", "want(1,1)", "cover(1)", "begins(1)", "helperOf(0,0)", "callOf(0,0)",
            "count(0)"};
        for (String call : calls) {
            run("Nothing is GIVEN but as a TICK passes: " + call, ready, call, "callOf(0,0)=0; callOf(0,6)=-9",
                "helperOf(0,0)=1; count(4)=0; ticks(1); callOf(0,0)=1");
        }
        run("Nothing is GIVEN as a CALL is passed on", "helper(1); duty(0); call(0,0,50,90,0); call(0,0,5,90,0); ticks(1)",
            "pass(0,0,9); callOf(0,0)=0; callOf(1,0)=0; helperOf(0,0)=1; ticks(1); callOf(0,0)=1");
        run("Nothing is GIVEN as another leaves, or is rung", ready, "call(0,0,5,90,0); leave(0); callOf(1,0)=0",
            "call(0,0,5,90,0); ring(1,5); callOf(2,0)=0; helperOf(0,0)=1");
        run("It is ON from now on", "ticks(6); helper(1); duty(0); call(0,0,50,90,0); ticks(1); callOf(0,0)=1",
            "callOf(0,8)=57; helperOf(0,3)=7; callOf(0,7)=1");
    }

    private static void doneInATick() {
        String one = "helper(1); duty(0); call(0,0,4,90,0); ticks(1)=0; callOf(0,8)=5;";
        run("1: not DONE ahead of its time", one, "ticks(3)=0; callOf(0,0)=1; callOf(0,8)=5; helperOf(0,0)=2",
            "helperOf(0,4)=0");
        run("1: CALLS whose time ON is over are DONE", one, "ticks(4)=1; callOf(0,0)=2; callOf(0,6)=0; callOf(0,8)=-9",
            "helperOf(0,4)=1");
        run("1: a HELPER without any CALL is FREE since now", one, "ticks(4)=1; helperOf(0,0)=1; helperOf(0,1)=0",
            "helperOf(0,3)=5; ticks(3)=0; helperOf(0,3)=5");
        run("1: a HELPER with another one is BUSY still", "helper(1); duty(0); call(3,0,4,90,0); call(3,0,9,90,0)",
            "ticks(1); ticks(4)=1; helperOf(0,0)=2; helperOf(0,1)=1; helperOf(0,2)=1; helperOf(0,3)=5");
        run("1: two of one HELPER in one TICK", "helper(1); duty(0); call(3,0,4,90,0); call(3,0,4,90,0); ticks(1)",
            "ticks(4)=2; helperOf(0,0)=1; helperOf(0,4)=2; helperOf(0,5)=4");
        run("1, 5: the next CALL in that very TICK", one, "call(0,0,4,90,0); ticks(3)=0; callOf(1,0)=0; ticks(1)=1",
            "callOf(1,0)=1; callOf(1,8)=9; helperOf(0,0)=2; helperOf(0,3)=5; helperOf(0,5)=4");
        run("1: ON for one TICK", "helper(3); duty(0); call(0,0,1,90,0); call(0,0,1,90,0); ticks(1)=0; ticks(1)=1",
            "callOf(1,0)=1; ticks(1)=1; count(8)=1");
        run("1: in many TICKS at once as one by one", one, "call(0,0,4,90,0); call(0,0,4,90,0); call(0,0,4,3,0)",
            "ticks(12)=3; count(0)=13; count(6)=1; helperOf(0,3)=13; helperOf(0,5)=12");
    }

    private static void breaksInATick() {
        String one = "helper(1); duty(0); ticks(2); pause(0,3)=5;";
        run("2: not over yet", one, "ticks(2); helperOf(0,0)=3; helperOf(0,3)=2; count(8)=0");
        run("2: BREAKS that are over: FREE since now", one, "ticks(3); helperOf(0,0)=1; helperOf(0,3)=5; helperOf(0,6)=-9",
            "count(8)=1");
        run("2, 5: a CALL in that very TICK", one, "call(0,0,4,90,0); ticks(2); callOf(0,0)=0; ticks(1); callOf(0,0)=1",
            "callOf(0,7)=3; callOf(0,8)=9; helperOf(0,3)=5");
        run("2: a BREAK of one TICK hinders nothing", "helper(1); duty(0); call(0,0,4,90,0); pause(0,1)=1; why(0)=2",
            "wait(0)=1; ticks(1); callOf(0,0)=1");
        run("2: BREAKS are no TICKS as BUSY", one, "ticks(3); helperOf(0,5)=0");
        run("2: ahead of 4: its OWN is back in the last TICK", "helper(1); duty(0); pause(0,9); call(1,0,5,9,0); ticks(8)",
            "callOf(0,0)=0; ticks(1); callOf(0,0)=1");
    }

    private static void backInATick() {
        run("3: WAITING again (WAITED 0)", "call(0,0,4,90,0); ticks(2); ring(0,3)=5; ticks(2); callOf(0,0)=4",
            "callOf(0,8)=5; ticks(1); callOf(0,0)=0; callOf(0,7)=0; callOf(0,8)=-9; callOf(0,5)=0");
        run("3, 5: GIVEN in that very TICK", "helper(1); duty(0); call(0,0,4,90,0); ring(0,3)=3; ticks(2); callOf(0,0)=4",
            "ticks(1); callOf(0,0)=1; callOf(0,7)=0");
        run("3, 4: with a PATIENCE of 0 not LEFT in that TICK", "call(0,0,4,0,0); ring(0,3); ticks(3); callOf(0,0)=0",
            "ticks(1); callOf(0,0)=3");
        run("3, 4, 5: with a PATIENCE of 0 GIVEN in that TICK", "helper(1); duty(0); call(0,0,4,0,0); ring(0,3); ticks(3)",
            "callOf(0,0)=1; callOf(0,7)=0");
        run("3: PATIENCE does not run while it is BACK", "call(0,0,4,2,0); ring(0,100); ticks(99); callOf(0,0)=4; ticks(3)",
            "callOf(0,0)=0; callOf(0,7)=2; ticks(1); callOf(0,0)=3");
        run("3: by their old numbers", "helper(1); duty(0); pause(0,5); call(0,0,4,90,0); call(0,0,4,90,0); ring(0,5)",
            "ring(1,5); call(0,0,4,90,0)=2; ticks(5); callOf(0,0)=1; callOf(1,0)=0; callOf(2,0)=0; ticks(4); callOf(1,0)=1");
        run("3: rung twice", "call(0,0,4,90,0); ring(0,2); ticks(2); ring(0,3)=5; ticks(2); callOf(0,0)=4; ticks(1)",
            "callOf(0,0)=0");
        run("3: a HELPER is not kept for it", "helper(1); duty(0); call(0,0,9,90,0); ring(0,2); call(0,0,9,90,0); ticks(2)",
            "callOf(1,0)=1; callOf(0,0)=0; ticks(8); callOf(0,0)=1; callOf(0,7)=8");
    }

    private static void leftInATick() {
        run("4: WAITED its PATIENCE", "call(0,0,4,3,0); ticks(3); callOf(0,7)=3; callOf(0,0)=0; count(6)=0");
        run("4: WAITED more than its PATIENCE", "call(0,0,4,3,0); ticks(4); callOf(0,0)=3; callOf(0,7)=-9; count(6)=1",
            "count(3)=0");
        run("4: a PATIENCE of 0", "call(0,0,4,0,0); callOf(0,0)=0; ticks(1); callOf(0,0)=3");
        run("4: a PATIENCE of 5000", "call(0,0,4,5000,0); ticks(5000); callOf(0,7)=5000; callOf(0,0)=0; ticks(1)",
            "callOf(0,0)=3");
        run("4: ahead of 5: a PATIENCE of 0 with a FREE HELPER", "helper(1); duty(0); call(0,0,4,0,0); ticks(1)",
            "callOf(0,0)=3; helperOf(0,0)=1");
        run("4: a PATIENCE of 1 with a FREE HELPER", "helper(1); duty(0); call(0,0,4,1,0); ticks(1); callOf(0,0)=1");
        run("1, 4, 5: a HELPER is FREE in its last TICK", "helper(1); duty(0); call(0,0,4,90,0); call(0,0,4,5,0); ticks(4)",
            "callOf(1,0)=0; ticks(1)=1; callOf(1,0)=1; callOf(1,7)=5");
        run("1, 4, 5: a HELPER is FREE one TICK too late", "helper(1); duty(0); call(0,0,4,90,0); call(0,0,4,4,0)",
            "ticks(4); callOf(1,0)=0; ticks(1)=1; callOf(1,0)=3; helperOf(0,0)=1");
        run("4: one passed on, with a PATIENCE of 0", "helper(1); duty(0); call(0,0,4,0,0); ring(0,1); ticks(1)",
            "callOf(0,0)=1; pass(0,0,4)=0; callOf(0,0)=0; ticks(1); callOf(0,0)=3; callOf(0,7)=0");
        run("4: KNOWN, WRITTEN and URGENT ones too", "helper(0); duty(0); call(1,0,4,3,0); call(2,0,4,3,0)",
            "call(3,0,4,3,0); ticks(3); count(3)=3; ticks(1); count(6)=3");
        run("4: ON and DONE ones do not leave", "helper(1); duty(0); call(0,0,9,2,0); ticks(9)=0; callOf(0,0)=1",
            "ticks(1)=1; callOf(0,0)=2; ticks(9); callOf(0,0)=2; count(6)=0");
        run("4: a KNOWN one in the TICK in which PREFER is over", "helper(1); helper(1); duty(0); prefer(5)",
            "call(1,0,4,5,1); call(1,0,4,4,1); ticks(5); callOf(0,6)=0; callOf(1,0)=3");
    }

    private static void severalInATick() {
        run("1 and 2 in one TICK: FREE since the same, the least number", "helper(1); helper(1); duty(1); call(0,0,4,90,0)",
            "ticks(1); duty(0); pause(0,4)=5; call(0,0,4,90,0); ticks(4)=1; callOf(1,6)=0; helperOf(1,0)=1",
            "helperOf(1,3)=5");
        run("1, 2 and 3 in one TICK", "helper(1); helper(4); duty(0); duty(1); call(0,0,4,90,0); call(0,0,9,90,0)",
            "call(0,1,9,0,0); ring(1,5); ring(2,5); pause(1,5); ticks(4)=0; count(4)=1; ticks(1)=1; callOf(1,6)=0",
            "callOf(2,6)=1");
        run("1 and 3 in one TICK: the rung one comes by its old number", "helper(1); duty(0); call(0,0,4,90,0)",
            "call(0,0,4,90,0); ring(1,5); call(0,0,4,90,0); ticks(5)=1; callOf(1,0)=1; callOf(2,0)=0");
        run("1 and 4 in one TICK: the next one gets it", "helper(1); duty(0); call(0,0,4,90,0); call(0,0,4,4,0)",
            "call(0,0,4,5,0); ticks(5)=1; callOf(1,0)=3; callOf(2,0)=1");
        run("a full room in one TICK", Runs.each(10, h -> "helper(1); duty(" + h + ")"),
            Runs.each(200, c -> "call(3,0,2,1," + c + ")"), "ticks(1); count(4)=30; count(3)=170",
            "count(8)=0; callOf(29,0)=1; callOf(30,0)=0",
            "ticks(1)=0; count(6)=170; count(4)=30; ticks(1)=30; count(8)=10; helperOf(9,4)=3");
    }

    private static void waits() {
        run("WAIT: 1 is the least", "helper(1); duty(0); call(0,0,4,1,0); wait(0)=1");
        run("WAIT: 1000 are gone on", "helper(1); duty(0); pause(0,1000); call(0,0,4,5000,0); wait(0)=1000; out(0)",
            "duty(0); pause(0,1001); wait(0)=-9; ticks(1); wait(0)=1000");
        run("WAIT: -8 if it has LEFT by then", "call(0,0,4,999,0); wait(0)=-8; call(0,0,4,0,0); wait(1)=-8",
            "call(0,0,4,1000,0); wait(2)=-9; ticks(1); wait(2)=-8");
        run("WAIT: ON or LEFT in the thousandth TICK", "helper(1); duty(0); pause(0,1000); call(0,0,4,999,0); wait(0)=-8",
            "leave(0); call(0,0,4,1000,0); wait(1)=1000");
        run("WAIT: -9 if it is neither", "helper(4); duty(0); call(0,0,4,5000,0); wait(0)=-9; grade(0,0,1); wait(0)=1",
            "out(0); wait(0)=-9");
        run("WAIT: PREFER of 1000", "helper(1); helper(1); duty(0); prefer(1000); call(1,0,4,5000,1); wait(0)=1000",
            "ticks(1); wait(0)=999; prefer(999); wait(0)=998");
        run("WAIT: till CALLS ahead of it are DONE", "helper(1); duty(0); call(0,0,999,5000,0); call(0,0,4,5000,0)",
            "wait(1)=1000; leave(0); wait(1)=1");
        run("WAIT: a TICK too many ahead of it", "helper(1); duty(0); call(0,0,1000,5000,0); call(0,0,4,5000,0)",
            "wait(1)=-9; ticks(1); wait(1)=1000; ticks(1); wait(1)=999");
    }

    private static void waitsGoOn() {
        run("WAIT: others that are to be rung BACK come too", "helper(1); duty(0); pause(0,5); call(0,0,9,90,0); ring(0,5)",
            "call(0,0,9,90,0); wait(1)=14; leave(0); wait(1)=5");
        run("WAIT: others leave", "helper(1); duty(0); pause(0,5); call(0,0,9,4,0); call(0,0,9,90,0); wait(0)=-8",
            "wait(1)=5");
        run("WAIT: by the RULE", "helper(1); duty(0); call(0,0,9,90,0); call(2,0,9,80,0); wait(0)=1; wait(1)=10; rule(1)",
            "wait(0)=10; wait(1)=1");
        run("WAIT: told true", "helper(1); helper(2); duty(0); duty(1); call(0,0,9,90,0); call(0,0,9,90,0)",
            "call(3,0,9,90,0); call(1,0,9,90,1); wait(2)=8; wait(3)=15",
            "ticks(7); callOf(2,0)=0; ticks(1); callOf(2,6)=1; ticks(6); callOf(3,0)=0; ticks(1); callOf(3,6)=1");
        run("WAIT: at the last TICK as ever", "helper(1); duty(0); ticks(20000); call(0,0,999,5000,0); call(0,0,9,5000,0)",
            "call(0,1,9,9,0); wait(0)=1; wait(1)=1000; wait(2)=-8; count(0)=20000");
        run("WAIT: asking changes nothing", "helper(1); duty(0); call(0,0,9,90,0); call(0,0,9,90,0); wait(1)=10",
            "wait(1)=10; wait(0)=1; count(0)=0; count(3)=2; helperOf(0,0)=1; helperOf(0,5)=0; within(90)=0; ticks(1)",
            "callOf(0,0)=1");
    }

    private static int[] lossesOf(int load) {
        int[] losses = new int[201];
        BigInteger whole = BigInteger.valueOf(1048576);
        BigInteger before = whole;
        losses[0] = 1048576;
        for (int k = 1; k <= 200; k++) {
            BigInteger lost = BigInteger.valueOf(load).multiply(before);
            before = lost.multiply(whole).divide(BigInteger.valueOf(100L * k).multiply(whole).add(lost));
            losses[k] = before.intValueExact();
        }
        return losses;
    }

    private static final int[] LOADS = {0, 1, 2, 50, 99, 100, 101, 1000, 5000, 9999, 10000};

    private static void losses() {
        for (int load : LOADS) {
            int[] losses = lossesOf(load);
            run("LOSS of a load of " + load, Runs.each(201, n -> "loss(" + load + "," + n + ")=" + losses[n]));
        }
    }

    private static void wanteds() {
        for (int load : LOADS) {
            int[] losses = lossesOf(load);
            StringBuilder asked = new StringBuilder();
            for (int n = 1; n <= 200 && losses[n - 1] > 0; n++) {
                asked.append("wanted(").append(load).append(',').append(losses[n]).append(")=").append(n).append(';');
                asked.append("wanted(").append(load).append(',').append(losses[n - 1] - 1).append(")=").append(n).append(';');
            }
            run("WANTED: the least n with which LOSS is that part or less, of " + load, asked.toString());
        }
    }

    private static void coverIs(String wants, int length, int shifts, int... begins) {
        run("COVER " + wants + " by " + length, wants, "cover(" + length + ")=" + shifts,
            Runs.each(16, q -> "begins(" + q + ")=" + (q < begins.length ? begins[q] : 0)));
    }

    private static void covers() {
        String ones = Runs.each(16, q -> "want(" + q + ",1)");
        coverIs(ones, 1, 16, 1, 1, 1, 1, 1, 1, 1, 1, 1, 1, 1, 1, 1, 1, 1, 1);
        coverIs(ones, 2, 8, 1, 0, 1, 0, 1, 0, 1, 0, 1, 0, 1, 0, 1, 0, 1);
        coverIs(ones, 5, 4, 1, 0, 0, 0, 0, 1, 0, 0, 0, 0, 1, 1);
        coverIs(ones, 15, 2, 1, 1);
        coverIs(ones, 16, 1, 1);
        coverIs("want(0,50)", 1, 50, 50);
        coverIs("want(0,50)", 16, 50, 50);
        coverIs("want(15,50)", 1, 50, 0, 0, 0, 0, 0, 0, 0, 0, 0, 0, 0, 0, 0, 0, 0, 50);
        coverIs("want(15,50)", 15, 50, 0, 50);
        coverIs("want(15,50)", 16, 50, 50);
        coverIs("want(0,1); want(1,2); want(2,1)", 2, 2, 1, 1);
        coverIs("want(0,1); want(1,3); want(2,1); want(4,2)", 3, 5, 1, 2, 0, 0, 2);
        coverIs("want(12,1); want(13,2); want(14,3); want(15,4)", 3, 5, 0, 0, 0, 0, 0, 0, 0, 0, 0, 0, 0, 0, 1, 4);
        coverIs("want(12,4); want(13,3); want(14,2); want(15,1)", 3, 5, 0, 0, 0, 0, 0, 0, 0, 0, 0, 0, 0, 0, 4, 1);
        coverIs("want(0,2); want(15,3)", 16, 3, 3);
        coverIs("want(0,2); want(15,3)", 15, 5, 2, 3);
        coverIs("want(7,5); want(8,5)", 8, 5, 0, 0, 0, 0, 0, 0, 0, 5);
        coverIs("want(7,5); want(8,6)", 9, 6, 0, 0, 0, 0, 0, 0, 0, 6);
    }
}
