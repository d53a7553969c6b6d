/** Promises 4 (enable), 5 (cancel), 6 (minutes), 13 (now), 14 (mode), 18 (activity) and 20 (could). */
public final class PlanMinutesTest {
    private static final Runs RUNS = new Runs("PlanMinutesTest");

    public static void main(String[] args) {
        enabling();
        enablingAgain();
        refusedEnabling();
        cancelling();
        time();
        oneAfterAnother();
        oneInsteadOfAnother();
        skipping();
        skippingInChains();
        envelopeOfHeat();
        envelopeOfData();
        envelopeOfEnergy();
        wayHomeInTheEnvelope();
        returning();
        askingForActivities();
        couldBeStarted();
        RUNS.end();
    }

    private static void enabling() {
        RUNS.run("enable starts what may be started", """
            minutes 3 -> 0
            plan a2-5H1;b1-4>a;c3-3H2;d1-1/a;e1-1H9 -> 0
            states -> 0 0 0 0 0
            level 2 -> 0
            could 0 -> false
            enable -> 3
            mode -> 1
            now -> 3
            states -> 1 0 1 0 1
            all 0 -> 1 3 0 0 1 0
            all 1 -> 0 -1 0 0 0 2
            level 2 -> 12
            """);
        RUNS.run("enable may start none and yet be PLAN", """
            plan a9-9D99 -> 0
            enable -> 0
            mode -> 1
            states -> 0
            minutes 60 -> 0
            mode -> 1
            # the latest start is 99
            minutes 39 -> 0
            states -> 0
            minutes 1 -> 0
            states -> 4
            mode -> 0
            """);
    }

    private static void enablingAgain() {
        RUNS.run("all wait again with all their retries", """
            plan a1-2*2;b2-2>a -> 0
            lasts 0 3
            enable -> 1
            minutes 2 -> 1
            all 0 -> 1 2 0 1 2 0
            minutes 2 -> 1
            states -> 2 1
            minutes 2 -> 0
            mode -> 0
            states -> 2 2
            all 0 -> 2 2 2 1 2 0
            all 1 -> 2 4 2 0 1 1
            enable -> 1
            mode -> 1
            all 0 -> 1 6 0 2 1 0
            all 1 -> 0 -1 0 0 0 1
            minutes 4 -> 1
            mode -> 0
            """);
        RUNS.run("latest starts count from the enabling", """
            plan a3-3;b1-1>a<3 -> 0
            minutes 50 -> 0
            enable -> 1
            minutes 3 -> 1
            states -> 2 1
            minutes 10 -> 0
            enable -> 1
            minutes 3 -> 1
            states -> 2 1
            """);
    }

    private static void refusedEnabling() {
        RUNS.run("no plan", """
            enable -> ISE
            plan a1-0 -> 100
            enable -> ISE
            """);
        RUNS.run("not IDLE", """
            plan a9-9 -> 0
            enable -> 1
            enable -> ISE
            cancel
            enable -> ISE
            minutes 5 -> 0
            enable -> 1
            """);
        RUNS.run("the return must be open", """
            plan a1-1 -> 0
            fill 99 0
            enable -> ISE
            fill 100 0
            enable -> 1
            minutes 1 -> 0
            mode -> 0
            fill 0 0
            home 1 0
            enable -> 1
            minutes 1 -> 0
            home 20 51
            fill 1000 0
            enable -> ISE
            home 20 50
            enable -> 1
            """);
    }

    private static void cancelling() {
        RUNS.run("cancel", """
            cancel -> ISE
            plan a1-1;b9-9E10H7;c1-1>b -> 0
            cancel -> ISE
            enable -> 2
            minutes 1 -> 0
            states -> 2 1 0
            cancel
            states -> 2 3 4
            mode -> 2
            levels -> 990 0 0
            # what it lasted is kept
            all 1 -> 3 0 1 0 1 0
            cancel -> ISE
            minutes 4 -> 0
            mode -> 2
            level 0 -> 910
            minutes 1 -> 0
            mode -> 0
            level 0 -> 890
            minutes 3 -> 0
            level 0 -> 890
            cancel -> ISE
            """);
        RUNS.run("a return without enough energy", """
            home 20 3
            plan a9-9E50 -> 0
            enable -> 1
            cancel
            minutes 20 -> 0
            mode -> 0
            level 0 -> 940
            home 3 99
            fill 297 0
            enable -> 0
            cancel
            gain 0
            minutes 2 -> 0
            level 0 -> 99
            minutes 1 -> 0
            level 0 -> 0
            mode -> 0
            """);
        RUNS.run("a return that would go below 0", """
            home 2 60
            plan a5-5 -> 0
            curve 1 50
            curve 2 50
            fill 20 0
            enable -> 1
            gain 0
            cancel
            minutes 1 -> 0
            level 0 -> 0
            mode -> 2
            gain 100
            minutes 1 -> 0
            level 0 -> 40
            mode -> 0
            """);
    }

    private static void time() {
        RUNS.run("minutes", """
            now -> 0
            minutes 0 -> 0
            now -> 0
            minutes 60 -> 0
            now -> 60
            minutes 1 -> 0
            now -> 61
            minutes -1 -> IAE
            minutes 61 -> IAE
            minutes -2147483648 -> IAE
            minutes 2147483647 -> IAE
            now -> 61
            plan a2-2;b2-2>a;c2-2>b;d60-60 -> 103
            plan a2-2;b2-2>a;c2-2>b -> 0
            enable -> 1
            minutes 0 -> 0
            all 0 -> 1 61 0 0 1 0
            # how many were started in them all
            minutes 5 -> 2
            states -> 2 2 1
            activity 1 1 -> 63
            activity 2 1 -> 65
            minutes 60 -> 0
            mode -> 0
            """);
    }

    private static void oneAfterAnother() {
        RUNS.run("after", """
            plan a2-2;b3-3;c1-1>a>b;d1-1>c -> 0
            enable -> 2
            minutes 2 -> 0
            states -> 2 1 0 0
            minutes 1 -> 1
            states -> 2 2 1 0
            minutes 1 -> 1
            states -> 2 2 2 1
            mode -> 1
            minutes 1 -> 0
            states -> 2 2 2 2
            mode -> 0
            """);
        RUNS.run("after one that is aborted", """
            plan a1-2;b1-1>a;c1-1>b;d1-1>e;e5-5 -> 0
            lasts 0 9
            enable -> 2
            minutes 1 -> 0
            states -> 1 0 0 0 1
            minutes 1 -> 0
            states -> 3 4 4 0 1
            minutes 3 -> 1
            states -> 3 4 4 1 2
            """);
    }

    private static void oneInsteadOfAnother() {
        RUNS.run("instead of one that is done", """
            plan a2-2;b1-1/a;c1-1>b;d1-1/b -> 0
            enable -> 1
            minutes 1 -> 0
            states -> 1 0 0 0
            # b and then c are skipped, so that d may start in the same minute
            minutes 1 -> 1
            states -> 2 4 4 1
            """);
        RUNS.run("instead of one that is aborted", """
            plan a2-2*1;b1-1/a -> 0
            draws 0 1
            enable -> 1
            # stopped, but it has a retry
            minutes 1 -> 1
            states -> 1 0
            draws 0 1
            minutes 2 -> 0
            states -> 2 4
            enable -> 1
            minutes 1 -> 1
            all 0 -> 1 4 0 0 2 0
            """);
        RUNS.run("instead of two", """
            plan a1-2;b1-3;c1-1/a/b -> 0
            draws 0 1
            lasts 1 9
            enable -> 2
            minutes 2 -> 0
            states -> 3 1 0
            minutes 1 -> 1
            states -> 3 3 1
            """);
        RUNS.run("instead of each other", """
            plan a1-1/b<4;b1-1/a<5 -> 0
            enable -> 0
            minutes 4 -> 0
            states -> 0 0
            # a is skipped, and b may start
            minutes 1 -> 1
            states -> 4 1
            minutes 1 -> 0
            states -> 4 2
            mode -> 0
            """);
    }

    private static void skipping() {
        RUNS.run("too late to start", """
            plan a3-3;b1-1>a<3;c4-4;d1-1>c<3 -> 303
            plan a3-3;b1-1>a<3;c3-4;d1-1>c<3 -> 0
            enable -> 2
            minutes 3 -> 1
            states -> 2 1 1 0
            minutes 1 -> 0
            states -> 2 2 2 4
            mode -> 0
            """);
        RUNS.run("a latest start of 0", """
            plan a1-1<0;b1-1<0;c9-9D99<0;d1-1/c -> 0
            minutes 5 -> 0
            enable -> 2
            states -> 1 1 0 0
            minutes 1 -> 1
            states -> 2 2 4 1
            """);
        RUNS.run("a stopped one can be too late", """
            plan a1-1<1*3 -> 0
            lasts 0 2
            enable -> 1
            minutes 1 -> 1
            all 0 -> 1 1 0 2 2 0
            lasts 0 2
            minutes 1 -> 0
            all 0 -> 2 1 1 2 2 0
            enable -> 1
            lasts 0 2
            minutes 1 -> 1
            mode -> 1
            minutes 1 -> 0
            all 0 -> 4 3 1 1 2 0
            mode -> 0
            """);
    }

    private static void skippingInChains() {
        // Names run against the chain, so that one pass by name is not enough.
        RUNS.run("again and again", """
            plan a1-1>b;b1-1>c;c1-1>d;d1-1>e;e1-2 -> 0
            lasts 4 3
            enable -> 1
            minutes 2 -> 0
            states -> 4 4 4 4 3
            mode -> 0
            """);
    }

    private static void envelopeOfHeat() {
        RUNS.run("heat", """
            plan a1-1H50;b1-2H50;c1-1H1;d1-1 -> 0
            enable -> 3
            states -> 1 1 0 1
            level 2 -> 100
            could 2 -> false
            minutes 1 -> 1
            states -> 2 1 1 2
            level 2 -> 51
            minutes 1 -> 0
            level 2 -> 0
            """);
    }

    private static void envelopeOfData() {
        RUNS.run("data of the longest times", """
            plan a1-10D50;b1-1D1 -> 0
            enable -> 1
            states -> 1 0
            lasts 1 1
            # 50 a minute for what it may still last, though it has lasted some
            minutes 1 -> 0
            level 1 -> 50
            could 1 -> false
            minutes 9 -> 0
            states -> 2 0
            levels -> 1000 500 0
            # the store is full
            minutes 5 -> 0
            states -> 2 0
            cancel
            minutes 5 -> 0
            fill 1000 499
            enable -> 1
            states -> 0 1
            minutes 1 -> 0
            level 1 -> 500
            """);
        RUNS.run("one that is done early leaves room", """
            plan a1-10D50;b2-2D50 -> 0
            lasts 0 3
            enable -> 1
            minutes 2 -> 0
            states -> 1 0
            minutes 1 -> 1
            states -> 2 1
            level 1 -> 150
            minutes 2 -> 0
            level 1 -> 250
            """);
        RUNS.run("retries may fill the store, to 500 at most", """
            plan a1-5D99*3;b5-5D1 -> 0
            lasts 0 9
            enable -> 2
            minutes 5 -> 0
            levels -> 1000 500 0
            states -> 0 2
            """);
    }

    private static void envelopeOfEnergy() {
        RUNS.run("energies as long as they may last", """
            home 1 0
            fill 100 0
            plan a1-4E20;b1-2E10;c1-1E1 -> 0
            enable -> 2
            states -> 1 1 0
            lowest -> 0
            could 2 -> false
            minutes 1 -> 0
            level 0 -> 70
            lowest -> 0
            minutes 3 -> 0
            states -> 2 2 0
            level 0 -> 0
            """);
        RUNS.run("gains of the curve count in it, each in its minute", """
            home 1 0
            curve 1 50
            curve 4 50
            plan a30-30E34 -> 0
            # minutes 1, 4, 25 and 28 have a gain, but 16 of the first are lost at the top
            enable -> 1
            lowest -> 164
            """);
        RUNS.run("what is lost at the top does not count", """
            home 19 50
            curve 1 50
            plan a1-3E30 -> 0
            # 1000 970 940, where 950 is asked for
            enable -> 0
            lowest -> 1000
            """);
        RUNS.run("what is lost at the top is not needed", """
            home 19 50
            curve 1 50
            plan a1-2E30 -> 0
            enable -> 1
            lowest -> 970
            """);
        RUNS.run("the level now, not the true gain", """
            home 1 0
            fill 10 0
            gain 100
            plan a1-2E6 -> 0
            enable -> 0
            could 0 -> false
            minutes 1 -> 1
            level 0 -> 110
            """);
        RUNS.run("a draw below its energy counts as its energy", """
            home 1 0
            fill 20 0
            plan a1-2E9;b1-1E3 -> 0
            draws 0 0
            enable -> 1
            minutes 1 -> 1
            level 0 -> 20
            states -> 1 1
            """);
    }

    private static void wayHomeInTheEnvelope() {
        RUNS.run("behind each minute the return is open", """
            fill 120 0
            plan a1-2E10 -> 0
            enable -> 1
            minutes 2 -> 0
            level 0 -> 100
            plan a1-2E10;b1-1 -> 0
            enable -> 1
            states -> 0 1
            could 0 -> false
            """);
        // A gain that comes while it lasts is no use for a way home that begins before.
        RUNS.run("open at the end, but not in between", """
            home 2 40
            fill 80 0
            curve 4 50
            curve 5 50
            plan a1-5E1 -> 0
            reserve -> 80
            enable -> 0
            minutes 1 -> 1
            states -> 1
            """);
        RUNS.run("behind now itself", """
            home 2 30
            fill 10 0
            curve 1 50
            plan a1-1E1 -> 0
            # 59 behind minute 1, where 60 is asked for
            enable -> 0
            could 0 -> false
            curve 2 50
            curve 3 50
            could 0 -> true
            # open behind minute 1, but not now
            curve 1 19
            could 0 -> false
            curve 1 20
            could 0 -> true
            """);
        RUNS.run("a curve that falls while a plan waits", """
            curve 1 50
            curve 2 50
            curve 3 50
            curve 4 50
            curve 5 50
            plan a3-3D99;b3-3D99 -> 0
            fill 0 0
            reserve -> 0
            enable -> 1
            could 1 -> false
            curve 1 0
            could 1 -> false
            lowest -> 0
            minutes 1 -> 0
            # behind minute 1: 50 + 50 + 50 + 50 + 0 against 20 each
            mode -> 1
            reserve -> 0
            curve 2 0
            reserve -> 20
            minutes 1 -> 0
            mode -> 1
            """);
    }

    private static void returning() {
        RUNS.run("a true gain below the curve brings the return", """
            curve 1 20
            curve 2 20
            curve 3 20
            fill 100 0
            plan a3-3E20H5;b1-1>a;c1-1 -> 0
            reserve -> 40
            enable -> 2
            gain 0
            minutes 1 -> 0
            mode -> 1
            states -> 1 0 2
            level 0 -> 80
            reserve -> 60
            minutes 1 -> 0
            # 60, where 80 is asked for
            reserve -> 80
            mode -> 2
            states -> 3 4 2
            levels -> 60 0 0
            all 0 -> 3 0 2 0 1 0
            could 1 -> false
            minutes 5 -> 0
            level 0 -> 0
            mode -> 0
            """);
        RUNS.run("also in the minute in which the last one is done", """
            fill 100 0
            plan a1-1 -> 0
            draws 0 0
            enable -> 1
            curve 6 0
            curve 0 50
            minutes 1 -> 0
            mode -> 0
            plan a1-1E9*1 -> 0
            fill 109 0
            draws 0 10
            enable -> 1
            # it drew more than it said: the return comes before its retry
            minutes 1 -> 0
            mode -> 2
            all 0 -> 4 1 1 0 1 0
            """);
        RUNS.run("none runs, none waits, and the return begins", """
            curve 1 20
            fill 80 0
            plan a1-1 -> 0
            enable -> 1
            gain 0
            minutes 1 -> 0
            states -> 2
            level 0 -> 80
            mode -> 2
            minutes 5 -> 0
            mode -> 0
            level 0 -> 0
            """);
        RUNS.run("the level is never below 0", """
            fill 100 0
            plan a1-1 -> 0
            draws 0 200
            enable -> 1
            minutes 1 -> 0
            level 0 -> 0
            mode -> 2
            states -> 3
            minutes 5 -> 0
            level 0 -> 0
            mode -> 0
            """);
    }

    private static void askingForActivities() {
        RUNS.run("activity", """
            activity 0 0 -> IOOBE
            activity -1 0 -> IOOBE
            plan a2-3*3;b1-1>a -> 0
            all 0 -> 0 -1 0 3 0 0
            all 1 -> 0 -1 0 0 0 2
            activity 2 0 -> IOOBE
            activity -1 0 -> IOOBE
            activity 0 -1 -> IOOBE
            activity 0 6 -> IOOBE
            activity 2147483647 0 -> IOOBE
            activity 0 -2147483648 -> IOOBE
            lasts 0 31
            enable -> 1
            minutes 2 -> 0
            all 0 -> 1 0 2 3 1 0
            # stopped and started in the same minute
            minutes 1 -> 1
            all 0 -> 1 3 0 2 2 0
            minutes 3 -> 1
            all 0 -> 2 3 3 2 2 0
            all 1 -> 1 6 0 0 1 2
            minutes 9 -> 0
            all 0 -> 2 3 3 2 2 0
            all 1 -> 2 6 1 0 1 2
            """);
        RUNS.run("stopped and waiting", """
            plan a2-3D99*1;b1-9H1 -> 0
            lasts 0 4
            enable -> 2
            minutes 3 -> 0
            # 297 and again 297 are too much
            all 0 -> 0 0 3 0 1 0
            could 0 -> false
            cancel
            all 0 -> 4 0 3 0 1 0
            """);
    }

    private static void couldBeStarted() {
        RUNS.run("could", """
            could 0 -> IOOBE
            could -1 -> IOOBE
            plan a1-2H60;b2-2>a;c1-1/a;d1-2H60 -> 0
            could 0 -> false
            could 4 -> IOOBE
            could -1 -> IOOBE
            could 2147483647 -> IOOBE
            enable -> 1
            # running
            could 0 -> false
            # after one that is not done
            could 1 -> false
            # instead of one that has not failed
            could 2 -> false
            # too hot
            could 3 -> false
            minutes 2 -> 2
            states -> 2 1 4 1
            could 2 -> false
            cancel
            could 0 -> false
            could 3 -> false
            """);
        // What is waiting and could start is started at once: only a changed curve leaves one that could.
        RUNS.run("could be started now, by a better curve", """
            home 1 10
            fill 20 0
            plan a1-2E10 -> 0
            enable -> 0
            could 0 -> false
            curve 1 10
            could 0 -> true
            could 1 -> IOOBE
            states -> 0
            curve 1 9
            could 0 -> false
            curve 1 10
            minutes 1 -> 1
            could 0 -> false
            minutes 2 -> 0
            mode -> 0
            could 0 -> false
            """);
    }
}
