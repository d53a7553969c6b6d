/**
 * The boundary cases of the levels, one run for each sentence of the document that names one: of
 * "Terms" the bounds of the levels, of the curve and of the return and when the return is open, and
 * of promises 9 (curve), 10 (gain), 11 (home), 12 (fill), 13 (now), 15 (level), 16 (reserve) and
 * 19 (lowest).
 */
public final class LevelBoundsTest {
    private static final Runs RUNS = new Runs("LevelBoundsTest");

    public static void main(String[] args) {
        atFirst();
        mostEnergy();
        leastEnergy();
        mostStore();
        placesOfTheCurve();
        returnAtFirst();
        returnOpen();
        returnOpenAroundTheCurve();
        curve();
        gain();
        home();
        homeInOtherModes();
        fill();
        fillInOtherModes();
        now();
        level();
        heat();
        reserve();
        lowest();
        RUNS.end();
    }

    private static void atFirst() {
        RUNS.run("Terms: time is a minute, at first 0", "now -> 0\nminutes 1 -> 0\nnow -> 1\n");
        RUNS.run("Terms: an energy level, at first 1000", "level 0 -> 1000\n");
        RUNS.run("Terms: a store, at first 0", "level 1 -> 0\n");
        RUNS.run("Terms: the heat of what is running", "level 2 -> 0\n");
        RUNS.run("Terms: the curve, at first 0", """
            fill 0 0
            times 24 minutes 1 -> 0
            level 0 -> 0
            """);
        RUNS.run("Terms: the true gain is the lower one", """
            fill 0 0
            curve 1 9
            minutes 1 -> 0
            level 0 -> 9
            """);
    }

    private static void mostEnergy() {
        RUNS.run("Terms: an energy level, 0 .. 1000: just to the bound in IDLE", """
            fill 951 0
            curve 1 49
            minutes 1 -> 0
            level 0 -> 1000
            """);
        RUNS.run("Terms: an energy level, 0 .. 1000: beyond it in IDLE", """
            fill 951 0
            curve 1 50
            curve 2 1
            minutes 1 -> 0
            level 0 -> 1000
            minutes 1 -> 0
            level 0 -> 1000
            """);
        RUNS.run("Terms: an energy level, 0 .. 1000: just to the bound in PLAN", """
            plan a3-3E10 -> 0
            fill 960 0
            enable -> 1
            gain 50
            minutes 1 -> 0
            level 0 -> 1000
            """);
        RUNS.run("Terms: an energy level, 0 .. 1000: beyond it in PLAN", """
            plan a3-3E10 -> 0
            fill 961 0
            enable -> 1
            gain 50
            minutes 1 -> 0
            level 0 -> 1000
            """);
        RUNS.run("Terms: an energy level, 0 .. 1000: just to the bound in RETURN", """
            plan a3-3 -> 0
            fill 920 0
            enable -> 1
            cancel
            gain 100
            minutes 1 -> 0
            level 0 -> 1000
            """);
        RUNS.run("Terms: an energy level, 0 .. 1000: beyond it in RETURN", """
            plan a3-3 -> 0
            fill 921 0
            enable -> 1
            cancel
            gain 100
            minutes 1 -> 0
            level 0 -> 1000
            """);
        RUNS.run("Terms: the level is min(1000, level + lower gain - draw): the draw before the bound", """
            plan a1-1E30 -> 0
            curve 1 50
            enable -> 1
            minutes 1 -> 0
            level 0 -> 1000
            """);
    }

    private static void leastEnergy() {
        RUNS.run("Terms: in PLAN 0 if it would be below: just at 0", """
            plan a1-1E99 -> 0
            fill 100 0
            home 1 0
            draws 0 100
            enable -> 1
            minutes 1 -> 0
            level 0 -> 0
            """);
        RUNS.run("Terms: in PLAN 0 if it would be below: 1 below", """
            plan a1-1E99 -> 0
            fill 100 0
            home 1 0
            draws 0 101
            enable -> 1
            minutes 1 -> 0
            level 0 -> 0
            curve 2 7
            minutes 1 -> 0
            level 0 -> 7
            """);
        RUNS.run("Terms: in RETURN 0 if it would be below: just at 0", """
            plan a1-1 -> 0
            curve 1 50
            home 1 60
            fill 10 0
            enable -> 1
            cancel
            minutes 1 -> 0
            level 0 -> 0
            mode -> 0
            """);
        RUNS.run("Terms: in RETURN 0 if it would be below: 1 below", """
            plan a1-1 -> 0
            curve 1 50
            home 2 60
            curve 2 50
            fill 20 0
            enable -> 1
            cancel
            gain 39
            minutes 1 -> 0
            level 0 -> 0
            gain 61
            minutes 1 -> 0
            level 0 -> 1
            """);
    }

    private static void mostStore() {
        RUNS.run("Terms: the store grows by their data, to 500 at most: just at 500", """
            fill 1000 490
            plan a1-1D10 -> 0
            enable -> 1
            minutes 1 -> 0
            level 1 -> 500
            """);
        // What may be too much is not started, so that the store is never asked to hold more than 500.
        RUNS.run("Terms: the store grows by their data, to 500 at most: 501 is not begun", """
            fill 1000 490
            plan a1-1D11 -> 0
            enable -> 0
            minutes 1 -> 0
            level 1 -> 490
            """);
        RUNS.run("Terms: the store stays at 500", """
            fill 1000 500
            plan a1-3D0;b1-1D1 -> 0
            enable -> 1
            minutes 3 -> 0
            level 1 -> 500
            states -> 2 0
            """);
    }

    private static void placesOfTheCurve() {
        for (int place = 0; place < 24; place++) {
            int first = place == 0 ? 24 : place;
            RUNS.run("Terms: a minute m has the lower gain of place m % 24: " + place,
                "fill 0 0\ncurve " + place + " 50\n"
                + "minutes " + (first - 1) + " -> 0\nlevel 0 -> 0\n"
                + "minutes 1 -> 0\nlevel 0 -> 50\n"
                + "minutes 23 -> 0\nlevel 0 -> 50\n"
                + "minutes 1 -> 0\nlevel 0 -> 100\n"
                + "minutes 24 -> 0\nlevel 0 -> 150\n");
        }
        RUNS.run("Terms: place m % 24: far behind the first day", """
            fill 0 0
            curve 23 3
            curve 0 5
            times 8 minutes 60 -> 0
            now -> 480
            level 0 -> 160
            minutes 22 -> 0
            level 0 -> 160
            minutes 1 -> 0
            level 0 -> 163
            minutes 1 -> 0
            level 0 -> 168
            """);
    }

    private static void returnAtFirst() {
        RUNS.run("Terms: the return is so many minutes, at first 5, with a draw each, at first 20", """
            reserve -> 100
            plan a1-9 -> 0
            enable -> 1
            cancel
            minutes 4 -> 0
            mode -> 2
            level 0 -> 920
            minutes 1 -> 0
            mode -> 0
            level 0 -> 900
            """);
    }

    private static void returnOpen() {
        RUNS.run("Terms: the return is open when it is never below 0: 0 at its end", """
            plan a1-1 -> 0
            fill 100 0
            enable -> 1
            """);
        RUNS.run("Terms: the return is open when it is never below 0: 1 below at its end", """
            plan a1-1 -> 0
            fill 99 0
            enable -> ISE
            """);
        RUNS.run("Terms: never below 0: 0 in between", """
            plan a1-1 -> 0
            home 3 30
            curve 3 50
            fill 60 0
            enable -> 1
            """);
        RUNS.run("Terms: never below 0: 1 below in between", """
            plan a1-1 -> 0
            home 3 30
            curve 3 50
            fill 59 0
            enable -> ISE
            """);
        RUNS.run("Terms: open behind a minute m: the gain of m is no use", """
            plan a1-1 -> 0
            home 1 40
            curve 0 50
            fill 0 0
            reserve -> 40
            enable -> ISE
            """);
        RUNS.run("Terms: open behind a minute m: the gain of m + 1 is of use", """
            plan a1-1 -> 0
            home 1 40
            curve 1 50
            fill 0 0
            reserve -> 0
            enable -> 1
            """);
        RUNS.run("Terms: open: the last minute of the return counts", """
            plan a1-1 -> 0
            home 3 20
            curve 3 20
            fill 40 0
            reserve -> 40
            enable -> 1
            """);
        RUNS.run("Terms: open: the minute behind the return doesn't count", """
            plan a1-1 -> 0
            home 3 20
            curve 4 50
            fill 59 0
            reserve -> 60
            enable -> ISE
            """);
        RUNS.run("Terms: open by the lower gain, not by the true one", """
            plan a1-1 -> 0
            gain 100
            fill 99 0
            enable -> ISE
            gain 0
            curve 1 1
            enable -> 1
            """);
        RUNS.run("Terms: open from level 0 when the return draws nothing", """
            plan a1-1 -> 0
            home 20 0
            fill 0 0
            enable -> 1
            """);
    }

    private static void returnOpenAroundTheCurve() {
        RUNS.run("Terms: the minutes m + 1, m + 2, .. of a return wrap around the curve", """
            home 3 50
            curve 23 50
            curve 0 40
            curve 1 30
            minutes 20 -> 0
            # places 21, 22, 23
            reserve -> 100
            minutes 1 -> 0
            # places 22, 23, 0
            reserve -> 60
            minutes 1 -> 0
            # places 23, 0, 1
            reserve -> 30
            minutes 1 -> 0
            # places 0, 1, 2
            reserve -> 80
            minutes 1 -> 0
            # places 1, 2, 3
            reserve -> 120
            minutes 1 -> 0
            reserve -> 150
            minutes 21 -> 0
            now -> 46
            reserve -> 30
            """);
        RUNS.run("Terms: a return of 20 minutes wraps around the curve", """
            home 20 10
            curve 3 10
            curve 4 10
            minutes 7 -> 0
            # places 8 .. 3
            reserve -> 190
            minutes 1 -> 0
            # places 9 .. 4
            reserve -> 180
            minutes 15 -> 0
            # places 0 .. 19
            reserve -> 180
            """);
    }

    private static void curve() {
        RUNS.run("Promise 9: IndexOutOfBoundsException when the place is not 0 .. 23", """
            curve -1 5 -> IOOBE
            curve 24 5 -> IOOBE
            curve -2147483648 5 -> IOOBE
            curve 2147483647 5 -> IOOBE
            curve 0 5
            curve 23 5
            """);
        RUNS.run("Promise 9: IllegalArgumentException when gain is not 0 .. 50", """
            curve 0 -1 -> IAE
            curve 0 51 -> IAE
            curve 23 -1 -> IAE
            curve 23 51 -> IAE
            curve 1 -2147483648 -> IAE
            curve 1 2147483647 -> IAE
            curve 0 0
            curve 0 50
            """);
        RUNS.run("Promise 9: a refused call leaves the place as it was", """
            curve 1 7
            curve 1 51 -> IAE
            curve 1 -1 -> IAE
            curve 25 3 -> IOOBE
            curve -23 3 -> IOOBE
            fill 0 0
            minutes 1 -> 0
            level 0 -> 7
            """);
        RUNS.run("Promise 9: a place that is none comes before a gain that is none", """
            curve -1 -1 -> IOOBE
            curve 24 51 -> IOOBE
            """);
        RUNS.run("Promise 9: a place of the curve: the last one set, 50 and then 0", """
            fill 0 0
            curve 1 50
            curve 1 0
            curve 2 0
            curve 2 50
            minutes 1 -> 0
            level 0 -> 0
            minutes 1 -> 0
            level 0 -> 50
            """);
        RUNS.run("Promise 9: a place of the curve, in PLAN and in RETURN", """
            plan a9-9 -> 0
            fill 500 0
            enable -> 1
            curve 1 11
            minutes 1 -> 0
            level 0 -> 511
            cancel
            curve 2 31
            reserve -> 69
            minutes 1 -> 0
            level 0 -> 522
            """);
    }

    private static void gain() {
        RUNS.run("Promise 10: IllegalArgumentException when it is not NONE .. 100", """
            gain -2 -> IAE
            gain 101 -> IAE
            gain -2147483648 -> IAE
            gain 2147483647 -> IAE
            gain -1
            gain 0
            gain 100
            """);
        RUNS.run("Promise 10: a refused call leaves the true gain as it was", """
            fill 0 0
            gain 6
            gain -2 -> IAE
            gain 101 -> IAE
            minutes 1 -> 0
            level 0 -> 6
            """);
        RUNS.run("Promise 10: a refused call leaves the lower gain the true one", """
            fill 0 0
            curve 1 6
            gain 101 -> IAE
            minutes 1 -> 0
            level 0 -> 6
            """);
        RUNS.run("Promise 10: the true gain of each minute from now on: 0", """
            fill 0 0
            curve 1 50
            curve 2 50
            gain 0
            minutes 2 -> 0
            level 0 -> 0
            """);
        RUNS.run("Promise 10: the true gain of each minute from now on: 100", """
            fill 0 0
            gain 100
            minutes 3 -> 0
            level 0 -> 300
            """);
        RUNS.run("Promise 10: NONE: the lower one", """
            fill 0 0
            curve 2 8
            gain 100
            minutes 1 -> 0
            gain -1
            minutes 2 -> 0
            level 0 -> 108
            """);
        RUNS.run("Promise 10: the true gain changes no lower gain", """
            gain 100
            reserve -> 100
            gain 0
            curve 1 20
            reserve -> 80
            """);
    }

    private static void home() {
        RUNS.run("Promise 11: IllegalArgumentException when the minutes are not 1 .. 20", """
            home 0 20 -> IAE
            home 21 20 -> IAE
            home -1 20 -> IAE
            home -2147483648 20 -> IAE
            home 2147483647 20 -> IAE
            reserve -> 100
            home 1 20
            reserve -> 20
            home 20 20
            reserve -> 400
            """);
        RUNS.run("Promise 11: IllegalArgumentException when the draw is not 0 .. 99", """
            home 5 -1 -> IAE
            home 5 100 -> IAE
            home 5 -2147483648 -> IAE
            home 5 2147483647 -> IAE
            reserve -> 100
            home 5 0
            reserve -> 0
            home 5 99
            reserve -> 495
            """);
        RUNS.run("Promise 11: a refused call leaves the whole return as it was", """
            home 3 7
            home 0 9 -> IAE
            home 4 100 -> IAE
            reserve -> 21
            plan a9-9 -> 0
            enable -> 1
            cancel
            minutes 2 -> 0
            mode -> 2
            level 0 -> 986
            minutes 1 -> 0
            mode -> 0
            level 0 -> 979
            """);
        RUNS.run("Promise 11: a return of 1 minute", """
            home 1 99
            plan a9-9 -> 0
            enable -> 1
            cancel
            mode -> 2
            minutes 1 -> 0
            mode -> 0
            level 0 -> 901
            """);
        RUNS.run("Promise 11: a return of 20 minutes", """
            home 20 1
            plan a9-9 -> 0
            enable -> 1
            cancel
            minutes 19 -> 0
            mode -> 2
            minutes 1 -> 0
            mode -> 0
            level 0 -> 980
            """);
    }

    private static void homeInOtherModes() {
        RUNS.run("Promise 11: IllegalStateException when the mode is PLAN", """
            plan a9-9 -> 0
            enable -> 1
            home 5 20 -> ISE
            home 1 1 -> ISE
            minutes 9 -> 0
            home 1 1
            """);
        RUNS.run("Promise 11: IllegalStateException when the mode is RETURN", """
            plan a9-9 -> 0
            enable -> 1
            cancel
            home 1 1 -> ISE
            minutes 4 -> 0
            home 1 1 -> ISE
            minutes 1 -> 0
            home 1 1
            """);
        RUNS.run("Promise 11: a number that is none comes before a mode that is none", """
            plan a9-9 -> 0
            enable -> 1
            home 0 20 -> IAE
            home 5 100 -> IAE
            cancel
            home 21 20 -> IAE
            home 5 -1 -> IAE
            """);
    }

    private static void fill() {
        RUNS.run("Promise 12: IllegalArgumentException when the energy is not 0 .. 1000", """
            fill -1 0 -> IAE
            fill 1001 0 -> IAE
            fill -2147483648 0 -> IAE
            fill 2147483647 0 -> IAE
            fill 0 7
            levels -> 0 7 0
            fill 1000 8
            levels -> 1000 8 0
            """);
        RUNS.run("Promise 12: IllegalArgumentException when the store is not 0 .. 500", """
            fill 7 -1 -> IAE
            fill 7 501 -> IAE
            fill 7 -2147483648 -> IAE
            fill 7 2147483647 -> IAE
            fill 7 0
            levels -> 7 0 0
            fill 8 500
            levels -> 8 500 0
            """);
        RUNS.run("Promise 12: a refused call leaves both as they were", """
            fill 123 45
            fill 1001 7 -> IAE
            fill 7 501 -> IAE
            levels -> 123 45 0
            """);
    }

    private static void fillInOtherModes() {
        RUNS.run("Promise 12: IllegalStateException when the mode is PLAN", """
            plan a9-9 -> 0
            enable -> 1
            fill 1 1 -> ISE
            levels -> 1000 0 0
            minutes 9 -> 0
            fill 1 1
            levels -> 1 1 0
            """);
        RUNS.run("Promise 12: IllegalStateException when the mode is RETURN", """
            plan a9-9 -> 0
            enable -> 1
            cancel
            fill 1 1 -> ISE
            minutes 4 -> 0
            fill 1 1 -> ISE
            minutes 1 -> 0
            fill 1 1
            levels -> 1 1 0
            """);
        RUNS.run("Promise 12: a number that is none comes before a mode that is none", """
            plan a9-9 -> 0
            enable -> 1
            fill 1001 0 -> IAE
            fill 0 501 -> IAE
            cancel
            fill -1 0 -> IAE
            fill 0 -1 -> IAE
            """);
    }

    private static void now() {
        RUNS.run("Promise 13: the time, in every mode", """
            now -> 0
            minutes 0 -> 0
            now -> 0
            minutes 2 -> 0
            now -> 2
            plan a9-9 -> 0
            enable -> 1
            now -> 2
            minutes 3 -> 0
            now -> 5
            cancel
            now -> 5
            minutes 60 -> 0
            now -> 65
            minutes 61 -> IAE
            now -> 65
            """);
    }

    private static void level() {
        RUNS.run("Promise 15: IndexOutOfBoundsException for another number", """
            level -1 -> IOOBE
            level 3 -> IOOBE
            level -2147483648 -> IOOBE
            level 2147483647 -> IOOBE
            level 0 -> 1000
            level 1 -> 0
            level 2 -> 0
            """);
    }

    private static void heat() {
        RUNS.run("Promise 15: the heat of all running ones, not of those that wait", """
            plan a2-2H99;b1-1H1;c1-1H50 -> 0
            level 2 -> 0
            enable -> 2
            level 2 -> 100
            """);
        RUNS.run("Promise 15: the heat of all running ones, not of those that are done or stopped", """
            plan a1-1H30;b1-1H20;c2-2H10 -> 0
            lasts 1 2
            enable -> 3
            level 2 -> 60
            minutes 1 -> 0
            states -> 2 3 1
            level 2 -> 10
            minutes 1 -> 0
            level 2 -> 0
            """);
        RUNS.run("Promise 15: the heat of all running ones, none in RETURN", """
            plan a9-9H30 -> 0
            enable -> 1
            level 2 -> 30
            cancel
            level 2 -> 0
            """);
    }

    private static void reserve() {
        RUNS.run("Promise 16: the least level from which the return is open: 0", """
            home 5 0
            reserve -> 0
            home 1 20
            curve 1 20
            reserve -> 0
            curve 1 19
            reserve -> 1
            curve 1 50
            reserve -> 0
            """);
        RUNS.run("Promise 16: the least level from which the return is open: 1000", """
            home 20 50
            reserve -> 1000
            plan a1-1 -> 0
            enable -> 1
            """);
        RUNS.run("Promise 16: NONE when it is from none of 0 .. 1000", """
            home 13 77
            # 1001
            reserve -> -1
            plan a1-1 -> 0
            enable -> ISE
            curve 13 1
            reserve -> 1000
            enable -> 1
            """);
        RUNS.run("Promise 16: behind now, in PLAN and in RETURN", """
            home 2 30
            curve 3 30
            plan a9-9 -> 0
            enable -> 1
            reserve -> 60
            minutes 1 -> 0
            reserve -> 30
            minutes 1 -> 0
            reserve -> 30
            cancel
            minutes 1 -> 0
            reserve -> 60
            """);
    }

    private static void lowest() {
        RUNS.run("Promise 19: the envelope of none goes nowhere", """
            lowest -> 1000
            fill 0 0
            lowest -> 0
            fill 7 0
            lowest -> 7
            plan a1-9E9 -> 0
            lowest -> 7
            """);
        RUNS.run("Promise 19: now counted", """
            plan a1-3E10 -> 0
            fill 500 0
            curve 1 50
            curve 2 50
            curve 3 50
            enable -> 1
            # 540 580 620
            lowest -> 500
            """);
        RUNS.run("Promise 19: now counted, but not the gain of this very minute", """
            plan a1-3E10 -> 0
            fill 500 0
            curve 0 50
            enable -> 1
            lowest -> 470
            """);
        RUNS.run("Promise 19: the lowest in between, not the last", """
            plan a1-3E30 -> 0
            fill 500 0
            curve 3 50
            enable -> 1
            # 470 440 460
            lowest -> 440
            """);
        RUNS.run("Promise 19: until none may last any more", """
            plan a1-3E30;b1-2E10 -> 0
            fill 500 0
            enable -> 2
            lowest -> 390
            minutes 1 -> 0
            lowest -> 390
            minutes 1 -> 0
            lowest -> 390
            minutes 1 -> 0
            lowest -> 390
            """);
        RUNS.run("Promise 19: of the running ones, not of those that wait", """
            plan a1-3E30;b1-9E10>a -> 0
            fill 500 0
            enable -> 1
            lowest -> 410
            """);
        RUNS.run("Promise 19: 0 when it goes just to 0", """
            home 1 0
            fill 30 0
            plan a1-3E10 -> 0
            enable -> 1
            lowest -> 0
            minutes 1 -> 0
            lowest -> 0
            """);
        RUNS.run("Promise 19: 1 when it goes just to 1", """
            home 1 0
            fill 31 0
            plan a1-3E10 -> 0
            enable -> 1
            lowest -> 1
            """);
        RUNS.run("Promise 19: 0 when it goes below", """
            home 1 0
            fill 10 0
            curve 1 50
            plan a1-3E20 -> 0
            enable -> 1
            lowest -> 0
            curve 1 0
            # 10 -10 -30 -50
            lowest -> 0
            """);
        RUNS.run("Promise 19: 0 when it goes below, though it comes up again", """
            home 1 0
            fill 20 0
            curve 1 50
            curve 3 50
            plan a1-3E30 -> 0
            enable -> 1
            curve 1 0
            # 20 -10 -40 -20
            lowest -> 0
            curve 2 50
            # 20 -10 10 30
            lowest -> 0
            curve 1 12
            # 20 2 22 42
            lowest -> 2
            """);
        RUNS.run("Promise 19: the envelope goes to 1000 at most", """
            plan a1-3E30 -> 0
            curve 1 50
            enable -> 1
            # 1000 970 940
            lowest -> 940
            """);
        RUNS.run("Promise 19: by their energies, not by what is said", """
            plan a1-3E30 -> 0
            lasts 0 1
            draws 0 0
            enable -> 1
            lowest -> 910
            """);
        RUNS.run("Promise 19: the minutes of an envelope wrap around the curve", """
            minutes 22 -> 0
            fill 500 0
            curve 23 10
            curve 0 20
            curve 1 30
            plan a1-4E50 -> 0
            enable -> 1
            # 460 430 410 360
            lowest -> 360
            curve 2 50
            lowest -> 410
            """);
        RUNS.run("Promise 19: in RETURN none is running", """
            plan a1-4E50 -> 0
            enable -> 1
            lowest -> 800
            cancel
            lowest -> 1000
            minutes 1 -> 0
            lowest -> 980
            """);
    }
}
