/**
 * The boundary cases of the minutes, one run for each sentence of the document that names one: of
 * "Terms" what a minute does in each mode, one behind the other, and of promises 4 (enable),
 * 5 (cancel), 6 (minutes), 14 (mode) and 18 (activity).
 */
public final class MinuteBoundsTest {
    private static final Runs RUNS = new Runs("MinuteBoundsTest");

    public static void main(String[] args) {
        idleMinutes();
        returnMinutes();
        planMinutes();
        stopped();
        done();
        stoppedWithRetries();
        skippedAsTooLate();
        skippedForOthers();
        skippedAgainAndAgain();
        returnBegins();
        startedByName();
        startedForOthers();
        idleAtLast();
        enable();
        enableRefused();
        cancel();
        minutes();
        mode();
        activity();
        activityRefused();
        RUNS.end();
    }

    private static void idleMinutes() {
        RUNS.run("Terms: in IDLE the level goes on by 0, but by the true gain", """
            fill 500 0
            curve 1 5
            minutes 1 -> 0
            level 0 -> 505
            gain 7
            minutes 1 -> 0
            level 0 -> 512
            minutes 1 -> 0
            mode -> 0
            """);
        RUNS.run("Terms: in IDLE a plan that is not enabled does nothing", """
            plan a1-1E9D9H9<0 -> 0
            minutes 60 -> 0
            levels -> 1000 0 0
            all 0 -> 0 -1 0 0 0 0
            """);
    }

    private static void returnMinutes() {
        RUNS.run("Terms: in RETURN it goes on by the return's draw, by the true gain", """
            home 3 30
            curve 1 10
            plan a9-9E5 -> 0
            fill 500 0
            enable -> 1
            cancel
            minutes 1 -> 0
            level 0 -> 480
            gain 40
            minutes 1 -> 0
            level 0 -> 490
            mode -> 2
            """);
        RUNS.run("Terms: behind as many minutes as the return has, it is IDLE: the next minute draws nothing", """
            home 2 30
            plan a9-9 -> 0
            enable -> 1
            cancel
            minutes 1 -> 0
            mode -> 2
            minutes 1 -> 0
            mode -> 0
            level 0 -> 940
            minutes 1 -> 0
            level 0 -> 940
            """);
        RUNS.run("Terms: behind as many minutes as the return has, it is IDLE: in one call", """
            home 2 30
            plan a9-9 -> 0
            enable -> 1
            cancel
            minutes 60 -> 0
            mode -> 0
            level 0 -> 940
            """);
        RUNS.run("Terms: behind as many minutes as the return has: each return has them all", """
            home 3 1
            plan a9-9 -> 0
            enable -> 1
            cancel
            minutes 3 -> 0
            mode -> 0
            enable -> 1
            minutes 1 -> 0
            cancel
            minutes 2 -> 0
            mode -> 2
            minutes 1 -> 0
            mode -> 0
            level 0 -> 994
            """);
        RUNS.run("Terms: behind as many minutes as the return has, that begins in a minute", """
            home 2 50
            curve 1 50
            curve 2 50
            plan a9-9 -> 0
            fill 0 0
            enable -> 1
            gain 0
            minutes 1 -> 0
            mode -> 2
            minutes 1 -> 0
            mode -> 2
            minutes 1 -> 0
            mode -> 0
            """);
        RUNS.run("Terms: in RETURN nothing is started, and nothing makes data or heat", """
            plan a5-5E9D9H9*3;b1-1/a -> 0
            enable -> 1
            cancel
            minutes 5 -> 0
            levels -> 900 0 0
            states -> 3 4
            """);
    }

    private static void planMinutes() {
        RUNS.run("Terms: in PLAN the level goes on by what all running ones draw, by the true gain", """
            plan a9-9E10;b9-9E20;c9-9E40>a -> 0
            draws 1 5
            fill 500 0
            curve 1 3
            enable -> 2
            minutes 1 -> 0
            level 0 -> 488
            gain 4
            minutes 1 -> 0
            level 0 -> 477
            """);
        RUNS.run("Terms: in PLAN the store grows by their data", """
            plan a9-9D10;b9-9D20;c9-9D40>a -> 0
            enable -> 2
            minutes 1 -> 0
            level 1 -> 30
            minutes 1 -> 0
            level 1 -> 60
            """);
        RUNS.run("Terms: one that is done or stopped in a minute drew and made data in it", """
            plan a1-1E10D5;b1-1E20D7 -> 0
            lasts 1 2
            enable -> 2
            minutes 1 -> 0
            states -> 2 3
            levels -> 970 12 0
            minutes 1 -> 0
            levels -> 970 12 0
            """);
        RUNS.run("Terms: one that is started draws, and is a minute old, in the next minute", """
            plan a1-1;b2-2E10D5>a -> 0
            enable -> 1
            minutes 1 -> 1
            levels -> 1000 0 0
            all 1 -> 1 1 0 0 1 1
            minutes 1 -> 0
            levels -> 990 5 0
            all 1 -> 1 1 1 0 1 1
            """);
        RUNS.run("Terms: one that is enabled draws, and is a minute old, in the next minute", """
            plan a2-2E10D5 -> 0
            enable -> 1
            levels -> 1000 0 0
            activity 0 2 -> 0
            minutes 1 -> 0
            levels -> 990 5 0
            activity 0 2 -> 1
            """);
    }

    private static void stopped() {
        RUNS.run("Terms: stopped when it drew more than its energy: as much as its energy is not more", """
            plan a2-2E10 -> 0
            draws 0 10
            enable -> 1
            minutes 1 -> 0
            states -> 1
            minutes 1 -> 0
            states -> 2
            """);
        RUNS.run("Terms: stopped when it drew more than its energy: 1 more", """
            plan a2-2E10 -> 0
            draws 0 11
            enable -> 1
            minutes 1 -> 0
            states -> 3
            level 0 -> 989
            """);
        RUNS.run("Terms: stopped when it drew more than its energy: 1 where it has none", """
            plan a2-2 -> 0
            draws 0 1
            enable -> 1
            minutes 1 -> 0
            states -> 3
            """);
        RUNS.run("Terms: stopped when it drew more than its energy, though it has lasted its time", """
            plan a1-2E10 -> 0
            draws 0 11
            lasts 0 1
            enable -> 1
            minutes 1 -> 0
            states -> 3
            """);
        RUNS.run("Terms: stopped when as old as its longest time and should last longer: 1 longer", """
            plan a1-3 -> 0
            lasts 0 4
            enable -> 1
            minutes 2 -> 0
            states -> 1
            minutes 1 -> 0
            states -> 3
            activity 0 2 -> 3
            """);
        RUNS.run("Terms: stopped when as old as its longest time and should last longer: 40 for 30", """
            plan a30-30 -> 0
            lasts 0 40
            enable -> 1
            minutes 29 -> 0
            states -> 1
            minutes 1 -> 0
            states -> 3
            activity 0 2 -> 30
            """);
    }

    private static void done() {
        RUNS.run("Terms: done when it has lasted its time: just its longest time", """
            plan a1-3 -> 0
            lasts 0 3
            enable -> 1
            minutes 2 -> 0
            states -> 1
            minutes 1 -> 0
            states -> 2
            """);
        RUNS.run("Terms: done when it has lasted its time: less than its shortest", """
            plan a3-3 -> 0
            lasts 0 1
            enable -> 1
            minutes 1 -> 0
            states -> 2
            activity 0 2 -> 1
            """);
        RUNS.run("Terms: done when it has lasted its time: 30 minutes", """
            plan a1-30 -> 0
            enable -> 1
            minutes 29 -> 0
            states -> 1
            minutes 1 -> 0
            states -> 2
            """);
        RUNS.run("Terms: done when it has lasted its time: 1 minute", """
            plan a1-1 -> 0
            enable -> 1
            minutes 1 -> 0
            states -> 2
            """);
    }

    private static void stoppedWithRetries() {
        RUNS.run("Terms: one that is stopped is waiting again if it has retries left: 1", """
            plan a1-1*1;b9-9H99 -> 0
            lasts 0 2
            enable -> 2
            minutes 1 -> 1
            all 0 -> 1 1 0 0 2 0
            lasts 0 2
            minutes 1 -> 0
            states -> 2 1
            """);
        RUNS.run("Terms: waiting again if it has retries left: what waits is seen when it can't start", """
            plan a1-1D99*1 -> 0
            lasts 0 2
            fill 1000 400
            enable -> 1
            minutes 1 -> 0
            all 0 -> 0 0 1 0 1 0
            levels -> 1000 499 0
            mode -> 1
            """);
        RUNS.run("Terms: waiting again if it has retries left: 3, one less each time, otherwise aborted", """
            plan a1-2*3 -> 0
            draws 0 1
            enable -> 1
            activity 0 3 -> 3
            draws 0 1
            minutes 1 -> 1
            activity 0 3 -> 2
            draws 0 1
            minutes 1 -> 1
            activity 0 3 -> 1
            draws 0 1
            minutes 1 -> 1
            all 0 -> 1 3 0 0 4 0
            minutes 1 -> 0
            all 0 -> 3 3 1 0 4 0
            mode -> 0
            """);
        RUNS.run("Terms: one that is done keeps its retries", """
            plan a1-1*3 -> 0
            enable -> 1
            minutes 1 -> 0
            all 0 -> 2 0 1 3 1 0
            """);
    }

    private static void skippedAsTooLate() {
        RUNS.run("Terms: skipped when the minutes since the enabling are above its latest start: just at it", """
            plan a5-5;b1-1>a<5 -> 0
            enable -> 1
            minutes 5 -> 1
            states -> 2 1
            """);
        RUNS.run("Terms: skipped when the minutes since the enabling are above its latest start: 1 above", """
            plan a4-5;b1-1>a<4 -> 0
            enable -> 1
            minutes 4 -> 0
            states -> 1 0
            minutes 1 -> 0
            states -> 2 4
            """);
        RUNS.run("Terms: above its latest start: of 0", """
            plan a1-1<0;b1-1D99<0 -> 0
            fill 1000 500
            enable -> 1
            states -> 1 0
            minutes 1 -> 0
            states -> 2 4
            mode -> 0
            """);
        RUNS.run("Terms: the minutes since the plan was enabled, not since the first minute", """
            minutes 60 -> 0
            plan a3-3;b1-1>a<3 -> 0
            minutes 60 -> 0
            enable -> 1
            minutes 3 -> 1
            states -> 2 1
            """);
        RUNS.run("Terms: a waiting one is skipped, not one that is running", """
            plan a5-5<0;b5-5<2 -> 0
            enable -> 2
            minutes 4 -> 0
            states -> 1 1
            minutes 1 -> 0
            states -> 2 2
            """);
        RUNS.run("Terms: a waiting one is skipped, though it was stopped in this very minute", """
            plan a1-3<2*3 -> 0
            lasts 0 4
            enable -> 1
            minutes 3 -> 0
            all 0 -> 4 0 3 2 1 0
            mode -> 0
            """);
        RUNS.run("Terms: a stopped one that is not too late is started again in this very minute", """
            plan a1-3<3*3 -> 0
            lasts 0 4
            enable -> 1
            minutes 3 -> 1
            all 0 -> 1 3 0 2 2 0
            """);
    }

    private static void skippedForOthers() {
        RUNS.run("Terms: skipped when one that it is after is aborted", """
            plan a1-1;b5-5;c1-1>a>b -> 0
            lasts 0 2
            enable -> 2
            minutes 1 -> 0
            states -> 3 1 4
            """);
        RUNS.run("Terms: skipped when one that it is after is skipped", """
            plan a1-1D99<0;b5-5;c1-1>a>b -> 0
            fill 1000 500
            enable -> 1
            states -> 0 1 0
            minutes 1 -> 0
            states -> 4 1 4
            """);
        RUNS.run("Terms: not skipped when one that it is after waits again", """
            plan a1-1*1;b1-1>a -> 0
            lasts 0 2
            enable -> 1
            minutes 1 -> 1
            states -> 1 0
            minutes 1 -> 1
            states -> 2 1
            """);
        RUNS.run("Terms: skipped when one that it is instead of is done", """
            plan a1-1;b5-5;c1-1/a/b -> 0
            enable -> 2
            minutes 1 -> 0
            states -> 2 1 4
            """);
        RUNS.run("Terms: not skipped when one that it is instead of is aborted", """
            plan a1-1;b5-5;c1-1/a/b -> 0
            lasts 0 2
            enable -> 2
            minutes 1 -> 0
            states -> 3 1 0
            """);
    }

    private static void skippedAgainAndAgain() {
        RUNS.run("Terms: again and again by name until nothing changes: against the names", """
            plan a1-1>b;b1-1>c;c1-1>d;d1-1>e;e1-1>f;f1-1>g;g1-1>h;h1-1 -> 0
            lasts 7 2
            enable -> 1
            minutes 1 -> 0
            states -> 4 4 4 4 4 4 4 3
            mode -> 0
            """);
        RUNS.run("Terms: again and again by name until nothing changes: with the names", """
            plan a1-1;b1-1>a;c1-1>b;d1-1>c;e1-1>d;f1-1>e;g1-1>f;h1-1>g -> 0
            lasts 0 2
            enable -> 1
            minutes 1 -> 0
            states -> 3 4 4 4 4 4 4 4
            mode -> 0
            """);
        RUNS.run("Terms: what is instead of a skipped one may start in the same minute", """
            plan a1-1/b;b1-1>c;c1-1>d;d1-1 -> 0
            lasts 3 2
            enable -> 1
            minutes 1 -> 1
            states -> 1 4 4 3
            """);
        RUNS.run("Terms: each is instead of the other: none is skipped before its latest start", """
            plan a1-1/b;b1-1/a<9 -> 0
            enable -> 0
            minutes 9 -> 0
            states -> 0 0
            minutes 1 -> 1
            states -> 1 4
            """);
    }

    private static void returnBegins() {
        RUNS.run("Terms: when the return is not open from the level behind m: just open", """
            plan a2-2E10;b1-1>a;c1-1 -> 0
            fill 120 0
            enable -> 2
            minutes 2 -> 1
            levels -> 100 0 0
            reserve -> 100
            mode -> 1
            states -> 2 1 2
            """);
        RUNS.run("Terms: when the return is not open from the level behind m: 1 below", """
            plan a2-2E10;b1-1>a;c1-1;d9-9H7 -> 0
            fill 120 0
            draws 2 1
            enable -> 3
            minutes 1 -> 0
            levels -> 109 0 7
            states -> 1 0 3 1
            mode -> 1
            minutes 1 -> 0
            # 99, where 100 is asked for: b is not started
            levels -> 99 0 0
            states -> 2 4 3 3
            mode -> 2
            """);
        RUNS.run("Terms: RETURN begins, also when none was running or waiting any more", """
            plan a1-1E10 -> 0
            fill 110 0
            draws 0 11
            enable -> 1
            minutes 1 -> 0
            level 0 -> 99
            states -> 3
            mode -> 2
            """);
        RUNS.run("Terms: all running ones are aborted, all waiting ones skipped: the others stay as they are", """
            home 2 30
            curve 1 30
            curve 2 30
            curve 3 30
            curve 4 30
            curve 5 30
            plan a1-1;b1-1/a;c3-3*3;d1-1>c;e1-1 -> 0
            lasts 4 2
            fill 0 0
            enable -> 3
            gain 0
            minutes 1 -> 0
            mode -> 1
            states -> 2 4 1 0 3
            curve 3 0
            curve 4 0
            minutes 1 -> 0
            mode -> 2
            states -> 2 4 3 4 3
            # one that is aborted so needs no retry
            all 2 -> 3 0 2 3 1 0
            """);
        RUNS.run("Terms: RETURN begins: its first minute is the next one", """
            plan a1-1E10 -> 0
            fill 110 0
            draws 0 11
            enable -> 1
            minutes 5 -> 0
            level 0 -> 19
            mode -> 2
            minutes 1 -> 0
            level 0 -> 0
            mode -> 0
            """);
        RUNS.run("Terms: when the return is not open: from no level", """
            home 20 51
            curve 1 20
            reserve -> 1000
            plan a9-9 -> 0
            enable -> 0
            minutes 1 -> 0
            reserve -> -1
            level 0 -> 1000
            mode -> 2
            states -> 4
            """);
        RUNS.run("Terms: when the return is not open: by a curve that was changed meanwhile", """
            home 20 50
            curve 1 1
            plan a9-9 -> 0
            fill 999 0
            enable -> 1
            curve 1 0
            minutes 1 -> 0
            reserve -> 1000
            level 0 -> 999
            mode -> 2
            states -> 3
            """);
    }

    private static void startedByName() {
        RUNS.run("Terms: by name: a waiting one is started: the first takes what there is", """
            plan a1-1H60;b2-2H60;c1-1H60;d1-1H40 -> 0
            enable -> 2
            states -> 1 0 0 1
            minutes 1 -> 1
            states -> 2 1 0 2
            minutes 1 -> 0
            states -> 2 1 0 2
            minutes 1 -> 1
            states -> 2 2 1 2
            """);
        RUNS.run("Terms: by name: one that is started counts for the next one", """
            home 1 0
            fill 100 0
            plan a1-5E10;b1-5E10;c1-1E1 -> 0
            enable -> 2
            states -> 1 1 0
            """);
        RUNS.run("Terms: by name: one that can't start does not count for the next one", """
            home 1 0
            fill 100 0
            plan a1-5E21;b1-5E10;c1-5E10 -> 0
            enable -> 2
            states -> 0 1 1
            """);
    }

    private static void startedForOthers() {
        RUNS.run("Terms: started when all that it is after are done: not one alone", """
            plan a1-1;b2-2;c3-3;d1-1>a>b>c -> 0
            enable -> 3
            minutes 2 -> 0
            states -> 2 2 1 0
            minutes 1 -> 1
            states -> 2 2 2 1
            """);
        RUNS.run("Terms: started when all that it is instead of are aborted or skipped: not one alone", """
            plan a1-1;b2-2;c1-1D99<0;d1-1/a/b/c -> 0
            fill 1000 500
            lasts 0 2
            lasts 1 3
            enable -> 2
            minutes 1 -> 0
            states -> 3 1 4 0
            minutes 1 -> 1
            states -> 3 3 4 1
            """);
        RUNS.run("Terms: started when both hold", """
            plan a1-1;b1-1;c1-1>a/b -> 0
            lasts 1 2
            enable -> 2
            minutes 1 -> 1
            states -> 2 3 1
            """);
        RUNS.run("Terms: one that it is after is done in the minute in which it is started", """
            plan a1-1>b;b1-1 -> 0
            enable -> 1
            minutes 1 -> 1
            states -> 1 2
            activity 0 1 -> 1
            """);
    }

    private static void idleAtLast() {
        RUNS.run("Terms: at last, when none is waiting or running, it is IDLE", """
            plan a1-1;b2-2 -> 0
            enable -> 2
            minutes 1 -> 0
            mode -> 1
            minutes 1 -> 0
            mode -> 0
            """);
        RUNS.run("Terms: when one is still waiting, it is not IDLE", """
            plan a1-1;b1-1D99 -> 0
            fill 1000 500
            enable -> 1
            minutes 60 -> 0
            mode -> 1
            states -> 2 0
            minutes 39 -> 0
            mode -> 1
            minutes 1 -> 0
            mode -> 0
            states -> 2 4
            """);
        RUNS.run("Terms: it is IDLE: the next minutes of the same call draw nothing", """
            plan a2-2E10D5 -> 0
            enable -> 1
            minutes 60 -> 0
            levels -> 980 10 0
            mode -> 0
            """);
    }

    private static void enable() {
        RUNS.run("Promise 4: how many were started: none", """
            plan a1-1D1 -> 0
            fill 1000 500
            enable -> 0
            mode -> 1
            """);
        RUNS.run("Promise 4: how many were started: eight", """
            plan a1-1;b1-1;c1-1;d1-1;e1-1;f1-1;g1-1;h1-1 -> 0
            enable -> 8
            """);
        RUNS.run("Promise 4: all its activities wait, with all their retries", """
            plan a1-1*2;b1-1>a;c1-1>b -> 0
            lasts 0 2
            enable -> 1
            lasts 0 2
            minutes 2 -> 2
            activity 0 3 -> 0
            cancel
            states -> 3 4 4
            minutes 5 -> 0
            enable -> 1
            states -> 1 0 0
            activity 0 3 -> 2
            """);
        RUNS.run("Promise 4: no minute passes", """
            plan a1-1E5D5 -> 0
            minutes 7 -> 0
            enable -> 1
            now -> 7
            levels -> 1000 0 0
            activity 0 1 -> 7
            """);
        RUNS.run("Promise 4: a latest start of 0 is not too late when it is enabled", """
            plan a1-1<0 -> 0
            minutes 60 -> 0
            enable -> 1
            states -> 1
            """);
    }

    private static void enableRefused() {
        RUNS.run("Promise 4: IllegalStateException when the mode is PLAN", """
            plan a5-5 -> 0
            enable -> 1
            enable -> ISE
            minutes 4 -> 0
            enable -> ISE
            minutes 1 -> 0
            enable -> 1
            """);
        RUNS.run("Promise 4: IllegalStateException when the mode is RETURN", """
            plan a5-5 -> 0
            enable -> 1
            cancel
            enable -> ISE
            minutes 4 -> 0
            enable -> ISE
            minutes 1 -> 0
            enable -> 1
            """);
        RUNS.run("Promise 4: IllegalStateException when there is no plan", """
            enable -> ISE
            text a1-1
            enable -> ISE
            submit -> 0
            enable -> 1
            """);
        RUNS.run("Promise 4: IllegalStateException when the return is not open from the level now", """
            plan a1-1 -> 0
            fill 99 0
            enable -> ISE
            fill 0 0
            enable -> ISE
            fill 100 0
            enable -> 1
            """);
        RUNS.run("Promise 4: a refused call leaves the minutes since the plan was enabled as they are", """
            plan a3-4;b1-1>a<3 -> 0
            enable -> 1
            minutes 2 -> 0
            enable -> ISE
            minutes 2 -> 0
            states -> 2 4
            """);
        RUNS.run("Promise 4: a refused call leaves the activities as they are", """
            plan a1-1*1;b1-1/a -> 0
            enable -> 1
            minutes 1 -> 0
            states -> 2 4
            fill 99 0
            enable -> ISE
            all 0 -> 2 0 1 1 1 0
            all 1 -> 4 -1 0 0 0 0
            """);
    }

    private static void cancel() {
        RUNS.run("Promise 5: all running ones are aborted, all waiting ones skipped", """
            plan a1-1;b9-9*3;c9-9H60;d1-1H60;e1-1>b;f1-1/a -> 0
            enable -> 3
            minutes 1 -> 0
            states -> 2 1 1 0 0 4
            cancel
            states -> 2 3 3 4 4 4
            activity 1 3 -> 3
            """);
        RUNS.run("Promise 5: all running ones are aborted, all waiting ones skipped: eight", """
            plan a2-2;b2-2;c2-2;d2-2>a;e2-2>a;f2-2>a;g2-2;h2-2 -> 0
            enable -> 5
            cancel
            states -> 3 3 3 4 4 4 3 3
            """);
        RUNS.run("Promise 5: RETURN begins", """
            plan a9-9 -> 0
            enable -> 1
            cancel
            mode -> 2
            now -> 0
            level 0 -> 1000
            """);
        RUNS.run("Promise 5: when none is running", """
            plan a1-1D1 -> 0
            fill 1000 500
            enable -> 0
            cancel
            mode -> 2
            states -> 4
            """);
        RUNS.run("Promise 5: IllegalStateException in IDLE", """
            cancel -> ISE
            plan a1-1 -> 0
            cancel -> ISE
            enable -> 1
            minutes 1 -> 0
            mode -> 0
            cancel -> ISE
            states -> 2
            """);
        RUNS.run("Promise 5: IllegalStateException in RETURN", """
            plan a9-9 -> 0
            enable -> 1
            cancel
            cancel -> ISE
            minutes 4 -> 0
            cancel -> ISE
            minutes 1 -> 0
            mode -> 0
            cancel -> ISE
            """);
    }

    private static void minutes() {
        RUNS.run("Promise 6: IllegalArgumentException when n is not 0 .. 60", """
            minutes -1 -> IAE
            minutes 61 -> IAE
            minutes -2147483648 -> IAE
            minutes 2147483647 -> IAE
            now -> 0
            minutes 0 -> 0
            now -> 0
            minutes 60 -> 0
            now -> 60
            """);
        RUNS.run("Promise 6: a refused call leaves a running plan as it is", """
            plan a5-5E5D5 -> 0
            enable -> 1
            minutes 61 -> IAE
            minutes -1 -> IAE
            levels -> 1000 0 0
            all 0 -> 1 0 0 0 1 0
            cancel
            minutes 61 -> IAE
            mode -> 2
            """);
        RUNS.run("Promise 6: 0 minutes start nothing", """
            home 1 10
            fill 20 0
            plan a1-2E10 -> 0
            enable -> 0
            curve 1 10
            could 0 -> true
            minutes 0 -> 0
            states -> 0
            """);
        RUNS.run("Promise 6: how many activities were started in them", """
            plan a1-1;b1-1>a;c1-1>b;d1-1>c -> 0
            enable -> 1
            minutes 0 -> 0
            minutes 2 -> 2
            minutes 60 -> 1
            minutes 60 -> 0
            """);
        RUNS.run("Promise 6: how many were started: one that is started again counts again", """
            plan a1-1*3;b1-1>a -> 0
            lasts 0 2
            enable -> 1
            lasts 0 2
            minutes 1 -> 1
            minutes 60 -> 2
            activity 0 4 -> 3
            """);
    }

    private static void mode() {
        RUNS.run("Promise 14: the mode", """
            mode -> 0
            plan a1-1 -> 0
            mode -> 0
            enable -> 1
            mode -> 1
            cancel
            mode -> 2
            minutes 5 -> 0
            mode -> 0
            """);
    }

    private static void activity() {
        RUNS.run("Promise 18: its state, WAITING before the plan is enabled", """
            plan a1-1 -> 0
            activity 0 0 -> 0
            enable -> 1
            activity 0 0 -> 1
            minutes 1 -> 0
            activity 0 0 -> 2
            minutes 1 -> 0
            activity 0 0 -> 2
            """);
        RUNS.run("Promise 18: the minute in which it was started last: NONE", """
            plan a1-1;b1-1/a -> 0
            activity 0 1 -> -1
            activity 1 1 -> -1
            enable -> 1
            activity 0 1 -> 0
            activity 1 1 -> -1
            minutes 1 -> 0
            activity 0 1 -> 0
            activity 1 1 -> -1
            """);
        RUNS.run("Promise 18: the minute in which it was started last: the last of two", """
            plan a2-2*1 -> 0
            lasts 0 3
            minutes 3 -> 0
            enable -> 1
            activity 0 1 -> 3
            minutes 2 -> 1
            activity 0 1 -> 5
            minutes 9 -> 0
            activity 0 1 -> 5
            """);
        RUNS.run("Promise 18: how many minutes it has lasted since that start", """
            plan a2-2*1;b1-1>a -> 0
            lasts 0 3
            activity 0 2 -> 0
            enable -> 1
            activity 0 2 -> 0
            minutes 1 -> 0
            activity 0 2 -> 1
            minutes 1 -> 1
            activity 0 2 -> 0
            minutes 2 -> 1
            activity 0 2 -> 2
            minutes 9 -> 0
            activity 0 2 -> 2
            activity 1 2 -> 1
            """);
        RUNS.run("Promise 18: how many minutes it has lasted since that start: cancelled", """
            plan a5-5 -> 0
            enable -> 1
            minutes 3 -> 0
            cancel
            activity 0 2 -> 3
            minutes 9 -> 0
            activity 0 2 -> 3
            """);
        RUNS.run("Promise 18: how often it was started since the plan was enabled", """
            plan a1-1*2 -> 0
            activity 0 4 -> 0
            lasts 0 2
            enable -> 1
            activity 0 4 -> 1
            minutes 1 -> 1
            activity 0 4 -> 2
            minutes 1 -> 0
            activity 0 4 -> 2
            enable -> 1
            activity 0 4 -> 1
            """);
        RUNS.run("Promise 18: its earliest start, whether it can be met or not", """
            plan a3-3;b1-1>a -> 0
            activity 0 5 -> 0
            activity 1 5 -> 3
            lasts 0 1
            enable -> 1
            minutes 1 -> 1
            activity 1 1 -> 1
            activity 1 5 -> 3
            """);
    }

    private static void activityRefused() {
        RUNS.run("Promise 18: IndexOutOfBoundsException when there is no such activity", """
            activity 0 0 -> IOOBE
            plan a1-1;b1-1 -> 0
            activity -1 0 -> IOOBE
            activity 2 0 -> IOOBE
            activity 7 0 -> IOOBE
            activity 8 0 -> IOOBE
            activity -2147483648 0 -> IOOBE
            activity 2147483647 0 -> IOOBE
            activity 0 0 -> 0
            activity 1 0 -> 0
            plan a1-1 -> 0
            activity 1 0 -> IOOBE
            """);
        RUNS.run("Promise 18: IndexOutOfBoundsException when there is no such what", """
            plan a1-1 -> 0
            activity 0 -1 -> IOOBE
            activity 0 6 -> IOOBE
            activity 0 -2147483648 -> IOOBE
            activity 0 2147483647 -> IOOBE
            activity 1 6 -> IOOBE
            activity 0 5 -> 0
            """);
        RUNS.run("Promise 18: the eighth is the last", """
            plan a1-1;b1-1;c1-1;d1-1;e1-1;f1-1;g1-1;h1-1*3 -> 0
            activity 7 3 -> 3
            activity 8 3 -> IOOBE
            """);
    }
}
