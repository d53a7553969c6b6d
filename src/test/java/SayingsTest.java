/** Promises 7 (lasts) and 8 (draws): what is said for the next start, and what lasts or draws too much. */
public final class SayingsTest {
    private static final Runs RUNS = new Runs("SayingsTest");

    public static void main(String[] args) {
        lasting();
        lastingTooLong();
        drawing();
        drawingTooMuch();
        holdingForOneStart();
        holdingUntilAnotherPlan();
        wrongSayings();
        RUNS.end();
    }

    private static void lasting() {
        RUNS.run("lasts", """
            plan a3-5;b3-5;c3-5 -> 0
            lasts 0 3
            # less than the shortest time is fine
            lasts 1 1
            enable -> 3
            minutes 1 -> 0
            states -> 1 2 1
            minutes 2 -> 0
            states -> 2 2 1
            minutes 1 -> 0
            states -> 2 2 1
            # at first its longest time
            minutes 1 -> 0
            states -> 2 2 2
            activity 0 2 -> 3
            activity 1 2 -> 1
            activity 2 2 -> 5
            """);
        RUNS.run("the last saying holds", """
            plan a1-9 -> 0
            lasts 0 8
            lasts 0 2
            enable -> 1
            minutes 2 -> 0
            states -> 2
            """);
    }

    private static void lastingTooLong() {
        RUNS.run("as old as its longest time", """
            plan a2-3;b2-3;c2-30 -> 0
            lasts 0 3
            lasts 1 4
            lasts 2 40
            enable -> 3
            minutes 2 -> 0
            states -> 1 1 1
            minutes 1 -> 0
            states -> 2 3 1
            minutes 26 -> 0
            states -> 2 3 1
            minutes 1 -> 0
            states -> 2 3 3
            activity 2 2 -> 30
            mode -> 0
            """);
        RUNS.run("retries, one less each time", """
            plan a1-1*3 -> 0
            lasts 0 2
            enable -> 1
            lasts 0 2
            minutes 1 -> 1
            lasts 0 2
            activity 0 3 -> 2
            minutes 1 -> 1
            lasts 0 2
            activity 0 3 -> 1
            minutes 1 -> 1
            all 0 -> 1 3 0 0 4 0
            minutes 1 -> 0
            all 0 -> 3 3 1 0 4 0
            mode -> 0
            """);
    }

    private static void drawing() {
        RUNS.run("draws", """
            plan a1-4E10;b1-4E10;c1-4E10 -> 0
            draws 0 0
            draws 1 10
            enable -> 3
            minutes 1 -> 0
            level 0 -> 980
            # the envelope has its own energy
            lowest -> 890
            minutes 3 -> 0
            level 0 -> 920
            states -> 2 2 2
            """);
    }

    private static void drawingTooMuch() {
        RUNS.run("more than its energy", """
            plan a1-4E10*1;b1-4 -> 0
            draws 0 11
            draws 1 1
            enable -> 2
            minutes 1 -> 1
            level 0 -> 988
            all 0 -> 1 1 0 0 2 0
            all 1 -> 3 0 1 0 1 0
            minutes 4 -> 0
            level 0 -> 948
            states -> 2 3
            """);
        RUNS.run("more than its energy in its last minute", """
            plan a1-1E10;b1-9E10 -> 0
            draws 0 11
            draws 1 200
            lasts 1 1
            enable -> 2
            minutes 1 -> 0
            states -> 3 3
            level 0 -> 789
            """);
    }

    private static void holdingForOneStart() {
        RUNS.run("said while it runs, for the next start", """
            plan a1-4E10 -> 0
            enable -> 1
            lasts 0 2
            draws 0 3
            minutes 4 -> 0
            states -> 2
            level 0 -> 960
            enable -> 1
            minutes 2 -> 0
            states -> 2
            level 0 -> 954
            enable -> 1
            minutes 3 -> 0
            states -> 1
            minutes 1 -> 0
            states -> 2
            level 0 -> 914
            """);
        RUNS.run("kept by one that did not start", """
            plan a1-1;b1-4E10/a -> 0
            lasts 1 2
            draws 1 3
            enable -> 1
            minutes 1 -> 0
            states -> 2 4
            enable -> 1
            draws 0 1
            minutes 1 -> 0
            enable -> 1
            minutes 1 -> 1
            states -> 3 1
            minutes 2 -> 0
            states -> 3 2
            level 0 -> 993
            """);
        RUNS.run("kept by a plan that is refused", """
            plan a1-4E10 -> 0
            lasts 0 2
            draws 0 3
            plan a1-4E10; -> 9
            plan a1-0 -> 100
            enable -> 1
            minutes 2 -> 0
            states -> 2
            level 0 -> 994
            """);
    }

    private static void holdingUntilAnotherPlan() {
        RUNS.run("gone with another plan, be it the same text", """
            plan a1-4E10 -> 0
            lasts 0 2
            draws 0 3
            plan a1-4E10 -> 0
            enable -> 1
            minutes 2 -> 0
            states -> 1
            level 0 -> 980
            minutes 2 -> 0
            plan a1-4E10 -> 0
            lasts 0 1
            plan a1-4E10 -> 0
            plan a1-4E10 -> 0
            enable -> 1
            minutes 3 -> 0
            states -> 1
            """);
    }

    private static void wrongSayings() {
        RUNS.run("wrong sayings", """
            lasts 0 1 -> IOOBE
            draws 0 1 -> IOOBE
            plan a1-4E10;b1-1 -> 0
            lasts -1 1 -> IOOBE
            lasts 2 1 -> IOOBE
            draws -1 1 -> IOOBE
            draws 2 1 -> IOOBE
            # no activity comes before a wrong number
            lasts 2 0 -> IOOBE
            draws 2 201 -> IOOBE
            lasts 0 0 -> IAE
            lasts 0 41 -> IAE
            lasts 0 -1 -> IAE
            draws 0 -1 -> IAE
            draws 0 201 -> IAE
            # nothing was said
            enable -> 2
            minutes 3 -> 0
            states -> 1 2
            level 0 -> 970
            minutes 1 -> 0
            states -> 2 2
            lasts 1 40
            lasts 0 1
            draws 1 200
            draws 0 0
            cancel -> ISE
            """);
        RUNS.run("sayings in every mode", """
            plan a1-4E10;b9-9 -> 0
            enable -> 2
            lasts 0 2
            cancel
            draws 0 3
            lasts 0 3
            lasts 9 3 -> IOOBE
            minutes 5 -> 0
            level 0 -> 900
            enable -> 2
            minutes 3 -> 0
            states -> 2 1
            level 0 -> 891
            """);
    }
}
