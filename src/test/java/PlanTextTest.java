/** Promises 1 (a new object), 2 (type), 3 (submit) and 17 (activities). */
public final class PlanTextTest {
    private static final Runs RUNS = new Runs("PlanTextTest");

    public static void main(String[] args) {
        newObject();
        typing();
        lineLength();
        noPlan();
        numbers();
        options();
        names();
        unfit();
        whichIsFirst();
        rings();
        earliest();
        replacing();
        submitInOtherModes();
        RUNS.end();
    }

    private static void newObject() {
        RUNS.run("a new object", """
            now -> 0
            mode -> 0
            levels -> 1000 0 0
            reserve -> 100
            lowest -> 1000
            activities -> 0
            activity 0 0 -> IOOBE
            could 0 -> IOOBE
            enable -> ISE
            # the line is empty: it ends too early, behind no character
            submit -> 1
            activities -> 0
            """);
    }

    private static void typing() {
        // The lowest byte comes first, and what stands behind a 0 doesn't count, whatever it is.
        RUNS.run("bytes", """
            type 0x312D3161 -> true
            submit -> 0
            type 0x61 -> true
            type 0x2D31 -> true
            type 0 -> true
            type 0xFF1F0031 -> true
            submit -> 0
            type 0x31006261 -> true
            submit -> 2
            """);
        RUNS.run("characters that can't be", """
            text a1-1
            type 0x1F -> IAE
            type 0x7F -> IAE
            type 0x80 -> IAE
            type 0x1F45 -> IAE
            type 0xFF313145 -> IAE
            type 0x0A313145 -> IAE
            type -1 -> IAE
            # nothing of them was put
            submit -> 0
            type 0x20 -> true
            submit -> 1
            type 0x7E -> true
            submit -> 1
            """);
    }

    private static void lineLength() {
        String sixty = "a1-1" + ">b".repeat(28);
        RUNS.run("64 characters", "text " + sixty + "\n" + """
            type 0x313131 -> true
            type 0x3131 -> false
            type 0x31 -> true
            type 0 -> true
            type 0x31 -> false
            # what can't be typed is looked at before
            type 0x1F -> IAE
            submit -> 61
            # the line is empty again
            text a1-1
            submit -> 0
            """);
        String longest = "a1-1" + ">b".repeat(27);
        RUNS.run("a line of 64 that is a plan, and some that are none",
            "plan " + longest + "E9;b1- -> 65\n"
            + "plan " + longest + "E;b1-1 -> 60\n"
            + "plan " + longest + ";b1-11 -> 0\n"
            + "activities -> 2\n"
            + "plan " + longest + ";b1-1* -> 65\n"
            + "plan " + longest + ";b1-1; -> 65\n"
            + "activities -> 2\n");
        RUNS.run("typing in every mode", """
            plan a9-9 -> 0
            enable -> 1
            text b
            cancel
            text 1
            minutes 5 -> 0
            submit -> 1
            """);
    }

    private static void noPlan() {
        RUNS.run("lines that end too early", """
            plan a -> 2
            plan a3 -> 3
            plan a3- -> 4
            plan a33 -> 4
            plan a33- -> 5
            plan a1-1E -> 6
            plan a1-1D -> 6
            plan a1-1H -> 6
            plan a1-1< -> 6
            plan a1-1* -> 6
            plan a1-1> -> 6
            plan a1-1/ -> 6
            plan a1-1; -> 6
            plan a1-1;b -> 7
            activities -> 0
            """);
        RUNS.run("characters that can't stand", """
            plan b1-1 -> 1
            plan 1 -> 1
            plan A1-1 -> 1
            plan ; -> 1
            plan a-1 -> 2
            plan aa -> 2
            plan a1;b1-1 -> 3
            plan a1-;b1-1 -> 4
            plan a1--1 -> 4
            plan a1-1a -> 5
            plan a1-1e5 -> 5
            plan a1-1F5 -> 5
            plan a1-1-1 -> 5
            plan a1-1E5-1 -> 7
            plan a1-1;; -> 6
            plan a1-1;a1-1 -> 6
            plan a1-1;c1-1 -> 6
            plan a1-1;b1-1;b1-1 -> 11
            plan a1-1~ -> 5
            # the first place counts, though more is wrong behind it, or unfit before it
            plan a0-99*9>zE?;x -> 11
            """);
        RUNS.run("spaces", """
            type 0x316120 -> true
            submit -> 1
            type 0x31206120 -> true
            submit -> 1
            text a1
            type 0x20 -> true
            submit -> 3
            text a1-1
            type 0x20 -> true
            submit -> 5
            """);
        RUNS.run("eight and nine", """
            plan a1-1;b1-1;c1-1;d1-1;e1-1;f1-1;g1-1;h1-1 -> 0
            activities -> 8
            plan a1-1;b1-1;c1-1;d1-1;e1-1;f1-1;g1-1;h1-1; -> 40
            plan a1-1;b1-1;c1-1;d1-1;e1-1;f1-1;g1-1;h1-1;i1-1 -> 40
            plan a1-1;b1-1;c1-1;d1-1;e1-1;f1-1;g1-1;h1-1H -> 41
            plan a1-1;b1-1;c1-1;d1-1;e1-1;f1-1;g1-1;h1-1x -> 40
            activities -> 8
            """);
    }

    private static void numbers() {
        RUNS.run("numbers", """
            plan a05-6 -> 3
            plan a00-6 -> 3
            plan a5-06 -> 5
            plan a100-1 -> 4
            plan a1-100 -> 6
            plan a1-1E00 -> 7
            plan a1-1E01 -> 7
            plan a1-1E100 -> 8
            plan a1-1D099 -> 7
            plan a1-1H123 -> 8
            plan a1-1<100 -> 8
            plan a1-1*01 -> 7
            plan a1-1E0D0H0<0*0 -> 0
            plan a1-1E99D99H99<99*3 -> 0
            plan a10-30 -> 0
            """);
    }

    private static void options() {
        RUNS.run("options once and again", """
            plan a1-1E1E1 -> 7
            plan a1-1D1D1 -> 7
            plan a1-1H1H1 -> 7
            plan a1-1<1<1 -> 7
            plan a1-1*1*1 -> 7
            plan a1-1E1D1H1<1*1E1 -> 15
            plan a1-1E0>bE0;b1-1 -> 9
            # another activity has its own
            plan a1-1E1*1;b1-1E1*1 -> 0
            plan a1-1*1<1H1D1E1 -> 0
            plan a1-1>b>b/b/b>b;b1-1 -> 0
            """);
        RUNS.run("what is said and what isn't", """
            plan a2-4E7D5H9*2;b2-4 -> 0
            all 0 -> 0 -1 0 2 0 0
            all 1 -> 0 -1 0 0 0 0
            enable -> 2
            levels -> 1000 0 9
            minutes 1 -> 0
            levels -> 993 5 9
            lowest -> 972
            """);
    }

    private static void names() {
        RUNS.run("names behind > and /", """
            plan a1-1>A -> 6
            plan a1-1>1 -> 6
            plan a1-1>` -> 6
            plan a1-1>{ -> 6
            plan a1-1/Z -> 6
            plan a1-1/; -> 6
            plan a1-1>> -> 6
            # a letter that is no name of the plan stands, but the plan is unfit
            plan a1-1>z -> 100
            plan a1-1/z -> 100
            plan a1-1;b1-1>c -> 101
            plan a1-1;b1-1/c -> 101
            plan a1-1>b;b1-1 -> 0
            plan a1-1/b;b1-1 -> 0
            plan a1-1>a -> 100
            plan a1-1/a -> 100
            plan a1-1;b1-1/b -> 101
            plan a1-1;b1-1>i;c1-1;d1-1;e1-1;f1-1;g1-1;h1-1 -> 101
            plan a1-1>h;b1-1;c1-1;d1-1;e1-1;f1-1;g1-1;h1-1/a -> 0
            """);
    }

    private static void unfit() {
        RUNS.run("times and retries", """
            plan a0-1 -> 100
            plan a1-0 -> 100
            plan a0-0 -> 100
            plan a1-30 -> 0
            plan a30-30 -> 0
            plan a1-31 -> 100
            plan a31-31 -> 100
            plan a99-99 -> 100
            plan a5-4 -> 100
            plan a5-5 -> 0
            plan a1-1*3 -> 0
            plan a1-1*4 -> 100
            plan a1-1*99 -> 100
            plan a1-1;b1-1;c9-8 -> 102
            plan a1-1;b1-1;c1-1;d1-1;e1-1;f1-1;g1-1;h1-1*4 -> 107
            """);
    }

    private static void whichIsFirst() {
        RUNS.run("the least of what fits, then the first activity", """
            # a is late and in no ring, b and c are a ring, d is wrong
            plan a9-9>d<8;b1-1>c;c1-1>b;d0-9 -> 103
            plan a9-9>d<8;b1-1>c;c1-1>b;d9-9 -> 201
            plan a9-9>d<8;b1-1>c;c1-1;d9-9 -> 300
            plan a9-9>d<9;b1-1>c;c1-1;d9-9 -> 0
            plan a1-1;b0-1;c0-1 -> 101
            plan a1-1;b9-9<8>d;c9-9<8>d;d9-9 -> 301
            """);
    }

    private static void rings() {
        RUNS.run("rings", """
            plan a1-1>b;b1-1>a -> 200
            plan a1-1>b;b1-1>c;c1-1>b -> 201
            plan a1-1>b;b1-1>c;c1-1>a -> 200
            plan a1-1;b1-1>d;c1-1>b;d1-1>c -> 201
            plan a1-1>h;b1-1>a;c1-1>b;d1-1>c;e1-1>d;f1-1>e;g1-1>f;h1-1>g -> 200
            plan a1-1>b;b1-1>c;c1-1>d;d1-1>e;e1-1>f;f1-1>g;g1-1>h;h1-1>g -> 206
            plan a1-1>b;b1-1>c;c1-1>d;d1-1>e;e1-1>f;f1-1>g;g1-1>h;h1-1 -> 0
            # only what is after makes a ring
            plan a1-1/b;b1-1/a -> 0
            plan a1-1>b;b1-1/a -> 0
            plan a1-1>b>c>d;b1-1>c>d;c1-1>d;d1-1 -> 0
            """);
    }

    private static void earliest() {
        RUNS.run("earliest starts", """
            plan a3-9;b2-9>a;c4-9;d1-1>b>c;e1-1>d/a -> 0
            activity 0 5 -> 0
            activity 1 5 -> 3
            activity 2 5 -> 0
            activity 3 5 -> 5
            activity 4 5 -> 6
            plan a3-9;b2-9>a;c6-9;d1-1>b>c;e1-1>d/a -> 0
            activity 3 5 -> 6
            # backward names, so that the earliest must be carried on
            plan a1-1>b;b2-9>c;c3-9>d;d4-9 -> 0
            activity 0 5 -> 9
            activity 1 5 -> 7
            activity 2 5 -> 4
            activity 3 5 -> 0
            """);
        RUNS.run("too late", """
            plan a9-9;b9-9>a<8 -> 301
            plan a9-9;b9-9>a<9 -> 0
            plan a1-9;b9-9>a<0 -> 301
            plan a1-9<0;b9-9>a<1 -> 0
            # the latest start is 99 where none is said
            plan a30-30;b30-30>a;c30-30>b;d1-1>c -> 0
            activity 3 5 -> 90
            plan a30-30;b30-30>a;c30-30>b;d9-9>c;e1-1>d -> 0
            activity 4 5 -> 99
            plan a30-30;b30-30>a;c30-30>b;d10-10>c;e1-1>d -> 304
            """);
    }

    private static void replacing() {
        RUNS.run("a plan that is refused leaves the one before", """
            plan a2-2E5;b3-3>a -> 0
            plan a1-1E -> 6
            activities -> 2
            plan a1-1;b1-1;c0-1 -> 102
            plan a1-1;b1-1>c;c1-1>b -> 201
            activities -> 2
            activity 1 5 -> 2
            enable -> 1
            minutes 5 -> 1
            levels -> 990 0 0
            states -> 2 2
            # and how it went
            plan ; -> 1
            all 1 -> 2 2 3 0 1 2
            # another one begins anew
            plan a1-4*2 -> 0
            activities -> 1
            all 0 -> 0 -1 0 2 0 0
            mode -> 0
            """);
        RUNS.run("nothing is left of plans before", """
            plan a1-4E9D9H9<0*1/b;b1-4;c1-4>a -> 0
            plan a1-4E9D9H9<0*1/b;b1-4;c1-4>a -> 0
            plan a1-4;b1-4>a;c1-4 -> 0
            all 0 -> 0 -1 0 0 0 0
            enable -> 2
            lowest -> 1000
            minutes 3 -> 0
            states -> 1 0 1
            levels -> 1000 0 0
            minutes 1 -> 1
            states -> 2 1 2
            minutes 4 -> 0
            plan a1-1 -> 0
            plan a1-1 -> 0
            enable -> 1
            minutes 1 -> 0
            mode -> 0
            """);
        RUNS.run("nothing is left of lines before", """
            plan a1-1>b;b1-1 -> 0
            plan a1-1> -> 6
            plan a1-11E55;b1-1 -> 0
            plan a1-1 -> 0
            plan a1- -> 4
            plan a -> 2
            submit -> 1
            """);
    }

    private static void submitInOtherModes() {
        RUNS.run("submit only in IDLE", """
            plan a9-9 -> 0
            enable -> 1
            text b
            submit -> ISE
            cancel
            submit -> ISE
            minutes 4 -> 0
            submit -> ISE
            minutes 1 -> 0
            # the line was kept: b can't stand first
            submit -> 1
            text a1-1
            enable -> 1
            submit -> ISE
            minutes 9 -> 0
            submit -> 0
            """);
    }
}
