/** Promises 9 (curve), 10 (gain), 11 (home), 12 (fill), 15 (level), 16 (reserve) and 19 (lowest). */
public final class LevelsTest {
    private static final Runs RUNS = new Runs("LevelsTest");

    public static void main(String[] args) {
        curve();
        trueGain();
        home();
        fill();
        levels();
        reserve();
        lowest();
        RUNS.end();
    }

    private static void curve() {
        RUNS.run("each minute has its place", """
            fill 0 0
            curve 1 5
            curve 23 7
            curve 0 11
            minutes 1 -> 0
            level 0 -> 5
            minutes 21 -> 0
            level 0 -> 5
            minutes 1 -> 0
            level 0 -> 12
            minutes 1 -> 0
            level 0 -> 23
            minutes 1 -> 0
            level 0 -> 28
            curve 1 50
            minutes 24 -> 0
            level 0 -> 96
            """);
        RUNS.run("wrong curves", """
            curve -1 0 -> IOOBE
            curve 24 0 -> IOOBE
            curve 24 51 -> IOOBE
            curve -1 -1 -> IOOBE
            curve 0 -1 -> IAE
            curve 23 51 -> IAE
            curve 0 50
            curve 23 0
            fill 0 0
            minutes 24 -> 0
            level 0 -> 50
            """);
        RUNS.run("a curve in every mode", """
            plan a9-9 -> 0
            enable -> 1
            curve 1 1
            cancel
            curve 1 2
            curve 1 51 -> IAE
            minutes 5 -> 0
            level 0 -> 902
            """);
    }

    private static void trueGain() {
        RUNS.run("gain", """
            fill 0 0
            curve 1 50
            curve 2 50
            curve 3 50
            gain 7
            minutes 1 -> 0
            level 0 -> 7
            gain 0
            minutes 1 -> 0
            level 0 -> 7
            gain -1
            minutes 1 -> 0
            level 0 -> 57
            minutes 1 -> 0
            level 0 -> 57
            gain 100
            minutes 9 -> 0
            level 0 -> 957
            # up to 1000
            minutes 1 -> 0
            level 0 -> 1000
            gain 101 -> IAE
            gain -2 -> IAE
            gain -2147483648 -> IAE
            fill 0 0
            minutes 1 -> 0
            level 0 -> 100
            """);
        RUNS.run("the true gain counts in PLAN and RETURN, not ahead", """
            plan a2-5E30;b1-1 -> 0
            gain 10
            enable -> 2
            lowest -> 850
            reserve -> 100
            minutes 1 -> 0
            level 0 -> 980
            gain 40
            minutes 2 -> 0
            level 0 -> 1000
            gain 25
            cancel
            minutes 1 -> 0
            level 0 -> 1000
            gain 15
            minutes 4 -> 0
            level 0 -> 980
            """);
    }

    private static void home() {
        RUNS.run("home", """
            reserve -> 100
            home 1 0
            reserve -> 0
            home 20 50
            reserve -> 1000
            home 20 99
            reserve -> -1
            home 0 1 -> IAE
            home 21 1 -> IAE
            home -1 1 -> IAE
            home 1 -1 -> IAE
            home 1 100 -> IAE
            reserve -> -1
            home 3 7
            plan a9-9 -> 0
            enable -> 1
            home 3 7 -> ISE
            # a wrong number comes before a wrong mode
            home 0 7 -> IAE
            cancel
            home 3 7 -> ISE
            home 3 100 -> IAE
            minutes 2 -> 0
            mode -> 2
            minutes 1 -> 0
            mode -> 0
            level 0 -> 979
            home 20 1
            reserve -> 20
            """);
    }

    private static void fill() {
        RUNS.run("fill", """
            fill 0 500
            levels -> 0 500 0
            fill 1000 0
            levels -> 1000 0 0
            fill 123 45
            fill -1 0 -> IAE
            fill 1001 0 -> IAE
            fill 0 -1 -> IAE
            fill 0 501 -> IAE
            levels -> 123 45 0
            plan a9-9 -> 0
            enable -> 1
            fill 1 1 -> ISE
            fill 1001 1 -> IAE
            fill 1 501 -> IAE
            cancel
            fill 1 1 -> ISE
            fill 1 -1 -> IAE
            minutes 5 -> 0
            levels -> 23 45 0
            fill 1 1
            levels -> 1 1 0
            """);
    }

    private static void levels() {
        RUNS.run("level", """
            level 0 -> 1000
            level 1 -> 0
            level 2 -> 0
            level 3 -> IOOBE
            level -1 -> IOOBE
            level 2147483647 -> IOOBE
            plan a2-2E5D7H11;b3-3E50D70H80;c1-1H9>a -> 0
            enable -> 2
            levels -> 1000 0 91
            minutes 1 -> 0
            levels -> 945 77 91
            minutes 1 -> 1
            levels -> 890 154 89
            minutes 1 -> 0
            levels -> 840 224 0
            minutes 1 -> 0
            levels -> 840 224 0
            """);
    }

    private static void reserve() {
        RUNS.run("reserve with a curve", """
            home 3 40
            reserve -> 120
            curve 3 50
            # 40 and 40 come before the gain
            reserve -> 80
            curve 2 50
            reserve -> 40
            curve 1 50
            reserve -> 0
            minutes 1 -> 0
            # 40 at the end, of which two gains of 10 are left
            reserve -> 20
            minutes 1 -> 0
            reserve -> 70
            minutes 1 -> 0
            reserve -> 120
            minutes 19 -> 0
            now -> 22
            reserve -> 80
            minutes 1 -> 0
            reserve -> 40
            minutes 1 -> 0
            reserve -> 0
            """);
        RUNS.run("reserve of none", """
            home 20 51
            reserve -> -1
            curve 20 19
            reserve -> -1
            curve 19 1
            reserve -> 1000
            minutes 1 -> 0
            # one minute without a gain more
            reserve -> 1000
            home 20 52
            reserve -> -1
            home 19 52
            reserve -> 968
            """);
        RUNS.run("the return is open from the reserve, and from no less", """
            home 4 30
            curve 2 50
            reserve -> 70
            plan a1-1 -> 0
            fill 69 0
            enable -> ISE
            fill 70 0
            enable -> 1
            """);
    }

    private static void lowest() {
        RUNS.run("lowest", """
            lowest -> 1000
            fill 300 0
            lowest -> 300
            curve 1 50
            curve 2 50
            plan a2-4E30;b1-2E10;c1-1/a -> 0
            enable -> 2
            # 310 320 290 260
            lowest -> 260
            minutes 1 -> 0
            level 0 -> 310
            lowest -> 260
            # now is counted
            curve 3 50
            curve 4 50
            lowest -> 310
            cancel
            lowest -> 310
            minutes 2 -> 0
            """);
        RUNS.run("gains that are lost at the top", """
            curve 1 50
            plan a2-3E30 -> 0
            enable -> 1
            # 1000 970 940
            lowest -> 940
            """);
        RUNS.run("0 when it goes below", """
            home 1 0
            curve 1 10
            curve 2 10
            curve 3 50
            fill 0 0
            plan a3-3E10 -> 0
            enable -> 1
            lowest -> 0
            curve 2 0
            lowest -> 0
            curve 1 50
            lowest -> 0
            """);
    }
}
