/**
 * The boundary cases of starts, one run for each sentence of the document that names one: of
 * "Terms" when an envelope holds and what is said for the next start, and of promises 7 (lasts),
 * 8 (draws) and 20 (could).
 */
public final class EnvelopeBoundsTest {
    private static final Runs RUNS = new Runs("EnvelopeBoundsTest");

    public static void main(String[] args) {
        heats();
        data();
        dataOfTheRest();
        energies();
        energiesOfTheRest();
        wayHome();
        wayHomeAround();
        saidForOneStart();
        lasts();
        lastsRefused();
        draws();
        drawsRefused();
        could();
        couldRefused();
        RUNS.end();
    }

    private static void heats() {
        RUNS.run("Terms: their heats together are 100 at most: 100", """
            plan a1-1H99;b1-1H1 -> 0
            enable -> 2
            level 2 -> 100
            """);
        RUNS.run("Terms: their heats together are 100 at most: 101", """
            plan a1-1H99;b1-1H2 -> 0
            enable -> 1
            states -> 1 0
            """);
        RUNS.run("Terms: their heats together are 100 at most: of eight", """
            plan a1-1H13;b1-1H13;c1-1H13;d1-1H13;e1-1H13;f1-1H13;g1-1H13;h1-1H9 -> 0
            enable -> 8
            level 2 -> 100
            """);
        RUNS.run("Terms: their heats together are 100 at most: of eight 101", """
            plan a1-1H13;b1-1H13;c1-1H13;d1-1H13;e1-1H13;f1-1H13;g1-1H13;h1-1H10 -> 0
            enable -> 7
            states -> 1 1 1 1 1 1 1 0
            """);
        RUNS.run("Terms: the heats of what is running: what is done has none", """
            plan a1-1H60;b1-1H60;c1-9H40 -> 0
            enable -> 2
            states -> 1 0 1
            minutes 1 -> 1
            states -> 2 1 1
            level 2 -> 100
            """);
    }

    private static void data() {
        RUNS.run("Terms: the store with all data of these minutes is 500 at most: 500", """
            plan a1-10D50 -> 0
            enable -> 1
            """);
        RUNS.run("Terms: the store with all data of these minutes is 500 at most: 501", """
            plan a1-10D50 -> 0
            fill 1000 1
            enable -> 0
            """);
        RUNS.run("Terms: the store with all data: of 1 minute, 500", """
            plan a1-1D99 -> 0
            fill 1000 401
            enable -> 1
            """);
        RUNS.run("Terms: the store with all data: of 1 minute, 501", """
            plan a1-1D99 -> 0
            fill 1000 402
            enable -> 0
            """);
        RUNS.run("Terms: the store with all data of all of them: 500", """
            plan a1-4D50;b1-3D99;c1-3D1 -> 0
            enable -> 3
            """);
        RUNS.run("Terms: the store with all data of all of them: 501", """
            plan a1-4D50;b1-3D99;c1-4D1 -> 0
            enable -> 2
            states -> 1 1 0
            """);
        RUNS.run("Terms: all data of these minutes: of 30 with 99 each, far beyond", """
            plan a30-30D99 -> 0
            enable -> 0
            """);
        RUNS.run("Terms: the data of the longest time, not of what is said", """
            plan a1-6D99 -> 0
            lasts 0 1
            enable -> 0
            """);
    }

    private static void dataOfTheRest() {
        RUNS.run("Terms: its longest time, less what it has lasted: data", """
            plan a1-10D40;b2-2;c1-1D99>b;d1-1D1>b;e1-1D1>b -> 0
            enable -> 2
            # 80 made and 320 to come are 400, and 99 and 1 more are 500
            minutes 2 -> 2
            states -> 1 2 1 1 0
            level 1 -> 80
            minutes 1 -> 0
            level 1 -> 220
            could 4 -> false
            """);
        RUNS.run("Terms: data of one that is done early are not to come", """
            plan a1-10D50;b1-1D50 -> 0
            lasts 0 9
            enable -> 1
            minutes 8 -> 0
            states -> 1 0
            minutes 1 -> 1
            level 1 -> 450
            states -> 2 1
            """);
    }

    private static void energies() {
        RUNS.run("Terms: the level is never below 0: 0", """
            home 1 0
            fill 30 0
            plan a1-3E10 -> 0
            enable -> 1
            """);
        RUNS.run("Terms: the level is never below 0: 1 below", """
            home 1 0
            fill 29 0
            plan a1-3E10 -> 0
            enable -> 0
            """);
        RUNS.run("Terms: never below 0: 0 in between", """
            home 1 0
            fill 20 0
            curve 3 50
            plan a1-3E10 -> 0
            enable -> 1
            """);
        RUNS.run("Terms: never below 0: 1 below in between", """
            home 1 0
            fill 19 0
            curve 3 50
            plan a1-3E10 -> 0
            enable -> 0
            """);
        RUNS.run("Terms: from the level now, in the minutes m + 1, m + 2, ..: the gain of m is no use", """
            home 1 0
            fill 29 0
            curve 0 50
            plan a1-3E10 -> 0
            enable -> 0
            """);
        RUNS.run("Terms: in the minutes m + 1, m + 2, ..: the gain of m + 1 is of use", """
            home 1 0
            fill 29 0
            curve 1 1
            plan a1-3E10 -> 0
            enable -> 1
            """);
        RUNS.run("Terms: in the minutes m + 1, m + 2, ..: the gain behind the last one is no use", """
            home 1 0
            fill 29 0
            curve 4 50
            plan a1-3E10 -> 0
            enable -> 0
            """);
        RUNS.run("Terms: each as long as it may last: 0", """
            home 1 0
            fill 61 0
            plan a1-4E10;b1-2E10;c1-1E1 -> 0
            enable -> 3
            """);
        RUNS.run("Terms: each as long as it may last: 1 below", """
            home 1 0
            fill 60 0
            plan a1-4E10;b1-2E10;c1-1E1 -> 0
            enable -> 2
            states -> 1 1 0
            """);
        RUNS.run("Terms: each as long as it may last: 30 minutes, 0", """
            home 1 0
            fill 990 0
            plan a30-30E33 -> 0
            enable -> 1
            """);
        RUNS.run("Terms: each as long as it may last: 30 minutes, 1 below", """
            home 1 0
            fill 989 0
            plan a30-30E33 -> 0
            enable -> 0
            """);
        RUNS.run("Terms: going on by the energies, not by what is said", """
            home 1 0
            fill 29 0
            plan a1-3E10 -> 0
            draws 0 0
            lasts 0 1
            enable -> 0
            """);
        RUNS.run("Terms: going on by the energies: more may be said", """
            home 1 0
            fill 30 0
            plan a1-3E10 -> 0
            draws 0 200
            lasts 0 40
            enable -> 1
            """);
        RUNS.run("Terms: going on by the lower gain, not by the true one", """
            home 1 0
            fill 29 0
            gain 100
            plan a1-3E10 -> 0
            enable -> 0
            gain 0
            curve 1 1
            could 0 -> true
            """);
    }

    private static void energiesOfTheRest() {
        RUNS.run("Terms: its longest time, less what it has lasted: energy, 0", """
            home 1 0
            fill 60 0
            plan a1-5E10;b2-2;c1-1E10>b -> 0
            enable -> 2
            minutes 2 -> 1
            level 0 -> 40
            states -> 1 2 1
            lowest -> 0
            """);
        RUNS.run("Terms: its longest time, less what it has lasted: energy, 1 below", """
            home 1 0
            fill 60 0
            plan a1-5E10;b2-2;c1-1E11>b -> 0
            enable -> 2
            minutes 2 -> 0
            states -> 1 2 0
            """);
        RUNS.run("Terms: what is started again has its longest time before it: 0", """
            home 1 0
            fill 30 0
            plan a1-2E10*1 -> 0
            lasts 0 3
            gain 5
            enable -> 1
            minutes 2 -> 1
            level 0 -> 20
            """);
        RUNS.run("Terms: what is started again has its longest time before it: 1 below", """
            home 1 0
            fill 30 0
            plan a1-2E10*1 -> 0
            lasts 0 3
            gain 4
            enable -> 1
            minutes 2 -> 0
            level 0 -> 18
            states -> 0
            minutes 1 -> 1
            level 0 -> 22
            """);
    }

    private static void wayHome() {
        RUNS.run("Terms: behind each of them the return is open: behind the last", """
            fill 120 0
            plan a1-2E10 -> 0
            enable -> 1
            """);
        RUNS.run("Terms: behind each of them the return is open: not behind the last", """
            fill 119 0
            plan a1-2E10 -> 0
            enable -> 0
            """);
        // 30, 60, 30 and 30 are asked for behind minutes 0 to 3.
        RUNS.run("Terms: behind each of them the return is open: in between", """
            home 2 30
            fill 31 0
            curve 1 30
            curve 4 30
            plan a1-3E1 -> 0
            enable -> 1
            """);
        RUNS.run("Terms: behind each of them the return is open: not in between", """
            home 2 30
            fill 30 0
            curve 1 30
            curve 4 30
            plan a1-3E1 -> 0
            enable -> 0
            """);
        RUNS.run("Terms: and behind m itself", """
            home 2 30
            fill 10 0
            curve 1 50
            plan a1-1E1 -> 0
            # 59 behind minute 1, where 60 is asked for
            enable -> 0
            curve 2 50
            curve 3 50
            could 0 -> true
            # 10 + 20 - 30 in minute 1 of a return that begins now
            curve 1 20
            could 0 -> true
            curve 1 19
            could 0 -> false
            # behind minute 1 it is open all the same
            minutes 1 -> 1
            """);
        RUNS.run("Terms: until none may last any more: the last minute is looked at", """
            home 1 50
            fill 50 0
            curve 1 50
            curve 2 50
            curve 3 50
            plan a1-3E50 -> 0
            enable -> 1
            """);
        RUNS.run("Terms: until none may last any more: the last minute is looked at, 1 below", """
            home 1 50
            fill 49 0
            curve 1 50
            curve 2 50
            curve 3 50
            plan a1-3E50 -> 0
            enable -> 0
            """);
        RUNS.run("Terms: the return is open: from no level", """
            home 20 50
            curve 20 1
            plan a1-1 -> 0
            reserve -> 999
            enable -> 1
            minutes 1 -> 0
            home 20 51
            # 1020 less 1
            reserve -> -1
            curve 2 19
            reserve -> 1000
            # behind minute 2 it is open from none
            enable -> 0
            """);
    }

    private static void wayHomeAround() {
        RUNS.run("Terms: the minutes m + 1, m + 2, .. of an envelope wrap around the curve", """
            minutes 22 -> 0
            home 1 0
            fill 0 0
            curve 23 10
            curve 0 20
            curve 1 30
            plan a1-3E20;b1-1;c1-3E10 -> 0
            # 10, 0 and 10 without a
            enable -> 2
            states -> 0 1 1
            cancel
            minutes 1 -> 0
            """);
        RUNS.run("Terms: the return behind the minutes of an envelope wraps around the curve", """
            minutes 22 -> 0
            home 2 30
            fill 60 0
            curve 0 10
            curve 1 10
            plan a1-2E10 -> 0
            # 50 behind minute 23, where places 0 and 1 leave 40; 50 behind minute 24, where 50 is asked for
            enable -> 1
            """);
        RUNS.run("Terms: the return behind the minutes of an envelope wraps around the curve: 1 below", """
            minutes 22 -> 0
            home 2 30
            fill 60 0
            curve 0 10
            curve 1 9
            plan a1-2E10 -> 0
            enable -> 0
            """);
    }

    private static void saidForOneStart() {
        RUNS.run("Terms: both hold for one start: a retry has its own again", """
            plan a1-3E10*1 -> 0
            lasts 0 4
            draws 0 9
            enable -> 1
            minutes 3 -> 1
            level 0 -> 973
            minutes 3 -> 0
            level 0 -> 943
            states -> 2
            """);
        RUNS.run("Terms: both hold for one start: the next enabling has its own again", """
            plan a1-3E10 -> 0
            lasts 0 1
            draws 0 9
            enable -> 1
            minutes 1 -> 0
            states -> 2
            level 0 -> 991
            enable -> 1
            minutes 2 -> 0
            states -> 1
            minutes 1 -> 0
            states -> 2
            level 0 -> 961
            """);
        RUNS.run("Terms: what is said for one is not said for another", """
            plan a1-3E10;b1-3E10 -> 0
            lasts 1 1
            draws 1 9
            enable -> 2
            minutes 1 -> 0
            states -> 1 2
            level 0 -> 981
            minutes 2 -> 0
            states -> 2 2
            level 0 -> 961
            """);
        RUNS.run("Terms: how long is said without how much, and how much without how long", """
            plan a1-3E10;b1-3E10 -> 0
            lasts 0 1
            draws 1 9
            enable -> 2
            minutes 3 -> 0
            activity 0 2 -> 1
            activity 1 2 -> 3
            level 0 -> 963
            """);
    }

    private static void lasts() {
        RUNS.run("Promise 7: how long the next start lasts: 1", """
            plan a3-30 -> 0
            lasts 0 1
            enable -> 1
            minutes 1 -> 0
            states -> 2
            """);
        RUNS.run("Promise 7: how long the next start lasts: 40", """
            plan a3-30 -> 0
            lasts 0 40
            enable -> 1
            minutes 29 -> 0
            states -> 1
            minutes 1 -> 0
            states -> 3
            """);
        RUNS.run("Promise 7: the next start, not one that is running", """
            plan a3-3*1 -> 0
            lasts 0 4
            enable -> 1
            lasts 0 1
            minutes 2 -> 0
            states -> 1
            minutes 1 -> 1
            all 0 -> 1 3 0 0 2 0
            minutes 1 -> 0
            states -> 2
            """);
        RUNS.run("Promise 7: until it is started: over a plan that is cancelled", """
            plan a3-3;b3-3>a -> 0
            lasts 1 1
            enable -> 1
            cancel
            minutes 5 -> 0
            enable -> 1
            minutes 3 -> 1
            minutes 1 -> 0
            states -> 2 2
            """);
        RUNS.run("Promise 7: or another plan is submitted", """
            plan a3-3 -> 0
            lasts 0 1
            plan a3-3 -> 0
            enable -> 1
            minutes 1 -> 0
            states -> 1
            """);
        RUNS.run("Promise 7: a plan that is refused is no other plan", """
            plan a3-3 -> 0
            lasts 0 1
            plan a3-3;b -> 7
            plan a3-3;b3-0 -> 101
            enable -> 1
            minutes 1 -> 0
            states -> 2
            """);
    }

    private static void lastsRefused() {
        RUNS.run("Promise 7: IndexOutOfBoundsException when there is no such activity", """
            lasts 0 1 -> IOOBE
            plan a3-3;b3-3 -> 0
            lasts -1 1 -> IOOBE
            lasts 2 1 -> IOOBE
            lasts 7 1 -> IOOBE
            lasts 8 1 -> IOOBE
            lasts -2147483648 1 -> IOOBE
            lasts 2147483647 1 -> IOOBE
            lasts 0 1
            lasts 1 1
            plan a3-3 -> 0
            lasts 1 1 -> IOOBE
            """);
        RUNS.run("Promise 7: IllegalArgumentException when it is not 1 .. 40", """
            plan a3-3 -> 0
            lasts 0 0 -> IAE
            lasts 0 41 -> IAE
            lasts 0 -1 -> IAE
            lasts 0 -2147483648 -> IAE
            lasts 0 2147483647 -> IAE
            lasts 0 1
            lasts 0 40
            """);
        RUNS.run("Promise 7: a refused call leaves what was said", """
            plan a3-3 -> 0
            lasts 0 2
            lasts 0 0 -> IAE
            lasts 0 41 -> IAE
            lasts 1 3 -> IOOBE
            enable -> 1
            minutes 2 -> 0
            states -> 2
            """);
        RUNS.run("Promise 7: a refused call says nothing", """
            plan a3-3 -> 0
            lasts 0 0 -> IAE
            lasts 0 -1 -> IAE
            enable -> 1
            minutes 2 -> 0
            states -> 1
            minutes 1 -> 0
            states -> 2
            """);
        RUNS.run("Promise 7: an activity that is none comes before minutes that are none", """
            lasts 0 0 -> IOOBE
            plan a3-3 -> 0
            lasts 1 41 -> IOOBE
            lasts -1 0 -> IOOBE
            """);
    }

    private static void draws() {
        RUNS.run("Promise 8: how much energy the next start draws each minute: 0", """
            plan a3-3E99 -> 0
            draws 0 0
            enable -> 1
            minutes 3 -> 0
            states -> 2
            level 0 -> 1000
            """);
        RUNS.run("Promise 8: how much energy the next start draws each minute: 200", """
            plan a3-3E99 -> 0
            draws 0 200
            enable -> 1
            minutes 1 -> 0
            states -> 3
            level 0 -> 800
            """);
        RUNS.run("Promise 8: the next start, not one that is running", """
            plan a2-2E10 -> 0
            enable -> 1
            draws 0 3
            minutes 2 -> 0
            level 0 -> 980
            enable -> 1
            minutes 2 -> 0
            level 0 -> 974
            """);
        RUNS.run("Promise 8: until another plan is submitted", """
            plan a2-2E10 -> 0
            draws 0 3
            plan a2-2E10 -> 0
            enable -> 1
            minutes 1 -> 0
            level 0 -> 990
            """);
    }

    private static void drawsRefused() {
        RUNS.run("Promise 8: IndexOutOfBoundsException when there is no such activity", """
            draws 0 1 -> IOOBE
            plan a3-3;b3-3 -> 0
            draws -1 1 -> IOOBE
            draws 2 1 -> IOOBE
            draws 7 1 -> IOOBE
            draws 8 1 -> IOOBE
            draws -2147483648 1 -> IOOBE
            draws 2147483647 1 -> IOOBE
            draws 0 1
            draws 1 1
            plan a3-3 -> 0
            draws 1 1 -> IOOBE
            """);
        RUNS.run("Promise 8: IllegalArgumentException when it is not 0 .. 200", """
            plan a3-3 -> 0
            draws 0 -1 -> IAE
            draws 0 201 -> IAE
            draws 0 -2147483648 -> IAE
            draws 0 2147483647 -> IAE
            draws 0 0
            draws 0 200
            """);
        RUNS.run("Promise 8: a refused call leaves what was said", """
            plan a3-3E10 -> 0
            draws 0 2
            draws 0 -1 -> IAE
            draws 0 201 -> IAE
            draws 1 3 -> IOOBE
            enable -> 1
            minutes 1 -> 0
            level 0 -> 998
            """);
        RUNS.run("Promise 8: a refused call says nothing", """
            plan a3-3E10 -> 0
            draws 0 -1 -> IAE
            draws 0 201 -> IAE
            enable -> 1
            minutes 1 -> 0
            level 0 -> 990
            """);
        RUNS.run("Promise 8: an activity that is none comes before an energy that is none", """
            draws 0 -1 -> IOOBE
            plan a3-3 -> 0
            draws 1 201 -> IOOBE
            draws -1 -1 -> IOOBE
            """);
    }

    /** What waits and may start is started at once, so that only a curve set anew leaves one that could. */
    private static void could() {
        RUNS.run("Promise 20: all that starting asks for holds: 0 and 1 below", """
            home 1 10
            fill 20 0
            plan a1-2E10 -> 0
            enable -> 0
            could 0 -> false
            curve 2 9
            could 0 -> false
            curve 2 10
            could 0 -> true
            minutes 1 -> 1
            could 0 -> false
            """);
        RUNS.run("Promise 20: the mode is PLAN: not IDLE", """
            plan a1-1 -> 0
            could 0 -> false
            enable -> 1
            minutes 1 -> 0
            mode -> 0
            could 0 -> false
            """);
        RUNS.run("Promise 20: the mode is PLAN: not RETURN", """
            home 1 10
            fill 20 0
            plan a1-2E10 -> 0
            enable -> 0
            curve 2 10
            could 0 -> true
            cancel
            could 0 -> false
            """);
        RUNS.run("Promise 20: it is waiting: not running, done, aborted or skipped", """
            plan a9-9;b1-1;c1-1;d1-1/b -> 0
            lasts 2 2
            enable -> 3
            could 0 -> false
            minutes 1 -> 0
            states -> 1 2 3 4
            could 0 -> false
            could 1 -> false
            could 2 -> false
            could 3 -> false
            """);
        RUNS.run("Promise 20: all that starting asks for holds: those that it is after", """
            plan a2-2;b1-1>a -> 0
            enable -> 1
            could 1 -> false
            """);
        RUNS.run("Promise 20: all that starting asks for holds: those that it is instead of", """
            plan a2-2;b1-1/a -> 0
            enable -> 1
            could 1 -> false
            """);
        RUNS.run("Promise 20: all that starting asks for holds: heat", """
            plan a2-2H50;b1-1H51 -> 0
            enable -> 1
            could 1 -> false
            """);
        RUNS.run("Promise 20: all that starting asks for holds: data", """
            plan a1-5D99;b1-1D6 -> 0
            enable -> 1
            could 1 -> false
            """);
        RUNS.run("Promise 20: whether it could be started: it is not", """
            home 1 10
            fill 20 0
            plan a1-2E10;b1-2E10 -> 0
            enable -> 0
            curve 2 10
            could 0 -> true
            # each alone
            could 1 -> true
            states -> 0 0
            minutes 1 -> 1
            states -> 1 0
            """);
    }

    private static void couldRefused() {
        RUNS.run("Promise 20: IndexOutOfBoundsException when there is no such activity", """
            could 0 -> IOOBE
            plan a1-1;b1-1 -> 0
            could -1 -> IOOBE
            could 2 -> IOOBE
            could 7 -> IOOBE
            could 8 -> IOOBE
            could -2147483648 -> IOOBE
            could 2147483647 -> IOOBE
            could 1 -> false
            enable -> 2
            could 2 -> IOOBE
            cancel
            could 2 -> IOOBE
            """);
    }
}
