/**
 * The boundary cases of the line and of plans, one run for each sentence of the document that names
 * one: of "Terms" what a line, a number, an option and a plan are and which plans are unfit, and of
 * promises 1 (a new object), 2 (type), 3 (submit) and 17 (activities).
 */
public final class LineBoundsTest {
    private static final String DIGITS = "0123456789";
    private static final String OPTIONS = "EDH<*>/";
    private static final String LETTERS = "abcdefghijklmnopqrstuvwxyz";
    private static final String EIGHT = "a1-1;b1-1;c1-1;d1-1;e1-1;f1-1;g1-1;h1-1";

    private static final Runs RUNS = new Runs("LineBoundsTest");

    public static void main(String[] args) {
        mostCharacters();
        oneToEightActivities();
        names();
        numbers();
        optionsOnce();
        whatIsNotSaid();
        whatCanStand();
        linesThatEndTooEarly();
        unfitTimes();
        unfitRetries();
        unfitNames();
        unfitRings();
        unfitStarts();
        whichUnfitComesFirst();
        newObject();
        typedBytes();
        typedZeros();
        typedBeyondTheEnd();
        submitted();
        notSubmitted();
        submitInOtherModes();
        activities();
        RUNS.end();
    }

    private static void mostCharacters() {
        // 4 and 27 times 2 are 58 characters, with ;b1-1 63.
        String most = "a1-1" + ">b".repeat(27) + ";b1-1";
        RUNS.run("Terms: a plan is a line of at most 64 characters: 63 are a plan",
            "text " + most + "\nroom -> 1\n"
            + "submit -> 64\nplan " + most + " -> 0\nactivities -> 2\n");
        RUNS.run("Terms: a plan is a line of at most 64 characters: 64 are a plan",
            "text " + most + "2\nroom -> 0\nsubmit -> 0\nactivities -> 2\n");
        RUNS.run("Terms: a plan is a line of at most 64 characters: a 65th is not put",
            "text " + most + "2\ntype 0x32 -> false\nsubmit -> 0\nactivities -> 2\n");
        RUNS.run("Terms: at the last place of a full line stands what can't stand",
            "text " + most + "\ntype 0x2D -> true\nsubmit -> 64\nactivities -> 0\n");
        RUNS.run("Terms: a full line ends too early, at the place behind its last one",
            "text " + most + "\ntype 0x45 -> true\nsubmit -> 65\nactivities -> 0\n");
    }

    private static void oneToEightActivities() {
        RUNS.run("Terms: one to eight activities: none", "submit -> 1\nactivities -> 0\n");
        for (int n = 1; n <= 8; n++) {
            String plan = EIGHT.substring(0, 5 * n - 1);
            RUNS.run("Terms: one to eight activities: " + n, "plan " + plan + " -> 0\nactivities -> " + n + "\n");
        }
        RUNS.run("Terms: an eighth ; can't stand", "plan " + EIGHT + "; -> 40\nactivities -> 0\n");
        RUNS.run("Terms: an eighth ; can't stand: nine activities", "plan " + EIGHT + ";i1-1 -> 40\nactivities -> 0\n");
        RUNS.run("Terms: with ; between: not before the first", "plan ;a1-1 -> 1\n");
        RUNS.run("Terms: with ; between: not behind the last", "plan a1-1; -> 6\nplan a1-1;b1-1; -> 11\n");
        RUNS.run("Terms: with ; between: not two", "plan a1-1;;b1-1 -> 6\n");
        RUNS.run("Terms: with ; between: not none", "plan a1-1b1-1 -> 5\n");
    }

    private static void names() {
        for (int n = 0; n < 8; n++) {
            String before = EIGHT.substring(0, 5 * n);
            for (int c = 0; c < LETTERS.length(); c++) {
                char letter = LETTERS.charAt(c);
                int due = c == n ? 0 : before.length() + 1;
                RUNS.run("Terms: a name that is not the next one can't stand",
                    "plan " + before + letter + "1-1 -> " + due + "\nactivities -> " + (c == n ? n + 1 : 0) + "\n");
            }
        }
    }

    private static void numbers() {
        for (String number : new String[] {"0", "1", "9", "10", "19", "90", "99"}) {
            for (String option : new String[] {"E", "D", "H", "<"}) {
                RUNS.run("Terms: a number has one or two digits", "plan a1-1" + option + number + " -> 0\n");
            }
        }
        RUNS.run("Terms: a number has one or two digits: none", """
            plan a-1 -> 2
            plan a1- -> 4
            plan a1-E1 -> 4
            plan a1-1E -> 6
            plan a1-1ED1 -> 6
            plan a1-1D;b1-1 -> 6
            """);
        RUNS.run("Terms: a third digit can't stand", """
            plan a100-1 -> 4
            plan a1-100 -> 6
            plan a1-1E100 -> 8
            plan a1-1D100 -> 8
            plan a1-1H100 -> 8
            plan a1-1<100 -> 8
            plan a1-1*100 -> 8
            plan a10-100 -> 7
            """);
        RUNS.run("Terms: the first digit is 0 only when it is alone", """
            plan a00-1 -> 3
            plan a01-1 -> 3
            plan a09-9 -> 3
            plan a1-00 -> 5
            plan a1-01 -> 5
            plan a1-1E00 -> 7
            plan a1-1D01 -> 7
            plan a1-1H09 -> 7
            plan a1-1<00 -> 7
            plan a1-1*03 -> 7
            """);
        RUNS.run("Terms: the first digit is 0 only when it is alone: alone", """
            plan a1-1E0 -> 0
            plan a1-1D0 -> 0
            plan a1-1H0 -> 0
            plan a1-1<0 -> 0
            plan a1-1*0 -> 0
            """);
    }

    private static void optionsOnce() {
        RUNS.run("Terms: each option at most once: an option that was there can't stand", """
            plan a1-1E0E0 -> 7
            plan a1-1D0D0 -> 7
            plan a1-1H0H0 -> 7
            plan a1-1<0<0 -> 7
            plan a1-1*0*0 -> 7
            plan a1-1E1D2H3<4*3E1 -> 15
            plan a1-1E1D2H3<4*3D1 -> 15
            plan a1-1E1D2H3<4*3H1 -> 15
            plan a1-1E1D2H3<4*3<1 -> 15
            plan a1-1E1D2H3<4*3*1 -> 15
            plan a1-1E1>b/b>bE1;b1-1 -> 13
            """);
        RUNS.run("Terms: each option at most once, in any order", """
            plan a1-1E1D2H3<4*3 -> 0
            plan a1-1*3<4H3D2E1 -> 0
            plan a1-1>bE1/bD2>bH3/b<4>b*3/b;b1-1 -> 0
            """);
        RUNS.run("Terms: each option at most once: the next activity has its own", """
            plan a1-1E1D2H3<4*3;b1-1E1D2H3<4*3 -> 0
            plan a1-1E1D2H3<4*3;b1-1*3<4H3D2E1*3 -> 30
            """);
        RUNS.run("Terms: after and instead of, any number of them",
            "plan a1-1" + ">b/b".repeat(13) + ";b1-1 -> 0\nplan a1-1>c>b>c>b;b1-1;c1-1 -> 0\n");
    }

    private static void whatIsNotSaid() {
        RUNS.run("Terms: what isn't said is 0: energy", """
            plan a1-3 -> 0
            enable -> 1
            lowest -> 1000
            minutes 2 -> 0
            level 0 -> 1000
            """);
        RUNS.run("Terms: what isn't said is 0: data", """
            fill 1000 500
            plan a1-3 -> 0
            enable -> 1
            minutes 2 -> 0
            level 1 -> 500
            """);
        RUNS.run("Terms: what isn't said is 0: data of an empty store", """
            plan a1-3 -> 0
            enable -> 1
            minutes 2 -> 0
            level 1 -> 0
            """);
        RUNS.run("Terms: what isn't said is 0: heat", """
            plan a1-3H99;b1-3H1;c1-3 -> 0
            enable -> 3
            level 2 -> 100
            """);
        RUNS.run("Terms: what isn't said is 0: retries", """
            plan a1-1 -> 0
            activity 0 3 -> 0
            lasts 0 2
            enable -> 1
            minutes 1 -> 0
            states -> 3
            """);
        RUNS.run("Terms: the latest start 99: in minute 99", """
            plan a30-30;b30-30>a;c30-30>b;d9-9>c;e1-1>d -> 0
            enable -> 1
            minutes 60 -> 2
            minutes 39 -> 2
            states -> 2 2 2 2 1
            activity 4 1 -> 99
            """);
        RUNS.run("Terms: the latest start 99: not in minute 100", """
            plan a30-30;b30-30>a;c30-30>b;d9-10>c;e1-1>d -> 0
            enable -> 1
            minutes 60 -> 2
            minutes 39 -> 1
            states -> 2 2 2 1 0
            minutes 1 -> 0
            states -> 2 2 2 2 4
            mode -> 0
            """);
    }

    /** Behind each beginning every character that can be typed, and the end of the line. */
    private static void whatCanStand() {
        stand("", "a");
        stand("a", DIGITS);
        stand("a0", "-");
        stand("a1", DIGITS + "-");
        stand("a9", DIGITS + "-");
        stand("a10", "-");
        stand("a1-", DIGITS);
        stand("a1-0", OPTIONS + ";");
        stand("a1-1", DIGITS + OPTIONS + ";");
        stand("a1-30", OPTIONS + ";");
        for (char option : "EDH<*".toCharArray()) {
            String others = OPTIONS.replace(String.valueOf(option), "");
            stand("a1-1" + option, DIGITS);
            stand("a1-1" + option + "0", others + ";");
            stand("a1-1" + option + "1", DIGITS + others + ";");
            stand("a1-1" + option + "10", others + ";");
            stand("a1-1" + option + "1>b", others + ";");
            stand("a1-1" + option + "1;b1-1", DIGITS + OPTIONS + ";");
        }
        for (String link : new String[] {">", "/"}) {
            stand("a1-1" + link, LETTERS);
            stand("a1-1" + link + "a", OPTIONS + ";");
            stand("a1-1" + link + "z", OPTIONS + ";");
            stand("a1-1E1" + link + "b", "DH<*>/;");
        }
        stand("a1-1E1D1H1<1*1", DIGITS + ">/;");
        stand("a1-1E1D1H1<1*10", ">/;");
        stand("a1-1E1D1H1<1*1>b/b", ">/;");
        for (int n = 1; n < 8; n++) {
            stand(EIGHT.substring(0, 5 * n), LETTERS.substring(n, n + 1));
            stand(EIGHT.substring(0, 5 * n + 1), DIGITS);
            stand(EIGHT.substring(0, 5 * n + 4), DIGITS + OPTIONS + (n < 7 ? ";" : ""));
        }
        stand(EIGHT + "E1", DIGITS + "DH<*>/");
        stand(EIGHT + ">a", OPTIONS);
    }

    private static void stand(String before, String stands) {
        for (int code = 32; code <= 126; code++) {
            RoverMinutes rover = new RoverMinutes();
            for (int four : Runs.fours(before + (char) code)) {
                rover.type(four);
            }
            boolean refused = rover.submit() == before.length() + 1;
            RUNS.due("Terms: no plan at the first character that can't stand where it is: " + before + (char) code,
                refused, stands.indexOf(code) < 0);
        }
    }

    private static void linesThatEndTooEarly() {
        // A line, and what it would need to be a plan.
        String[][] early = {{"", "a1-1"}, {"a", "1-1"}, {"a1", "-1"}, {"a10", "-10"}, {"a1-", "1"}, {"a10-", "10"},
            {"a1-1;", "b1-1"}, {"a1-1;b", "1-1"}, {"a1-1;b1", "-1"}, {"a1-1;b1-", "1"}, {"a1-1E", "1"}, {"a1-1D", "1"},
            {"a1-1H", "1"}, {"a1-1<", "1"}, {"a1-1*", "1"}, {"a1-1>", "b;b1-1"}, {"a1-1/", "b;b1-1"},
            {"a1-1E1>", "b;b1-1"}, {EIGHT.substring(0, 35), "h1-1"}, {EIGHT + "*", "3"}, {EIGHT + "/", "a"}};
        for (String[] line : early) {
            String tooEarly = "text " + line[0] + "\nsubmit -> " + (line[0].length() + 1) + "\n";
            RUNS.run("Terms: when it ends too early, the place behind its last one", tooEarly + "activities -> 0\n");
            RUNS.run("Terms: when it ends too early, though the line before it went on",
                "plan " + line[0] + line[1] + " -> 0\n" + tooEarly);
        }
        for (String end : new String[] {";", ";c", ";c1", ";c1-", "E", "D", "H", "<", "*", ">", "/"}) {
            String b = end.length() % 2 == 0 ? ";b1-10" : ";b1-1";
            String line = "a1-1" + ">b".repeat((60 - b.length() - end.length()) / 2) + b + end;
            RUNS.run("Terms: when it ends too early, and is full", "text " + line + "\nroom -> 0\nsubmit -> 65\n");
        }
    }

    private static void unfitTimes() {
        RUNS.run("Terms: unfit when a time is 0", """
            plan a0-0 -> 100
            plan a0-1 -> 100
            plan a1-0 -> 100
            plan a1-1;b0-1 -> 101
            plan a1-1 -> 0
            """);
        RUNS.run("Terms: unfit when a time is above 30", """
            plan a30-31 -> 100
            plan a31-31 -> 100
            plan a1-31 -> 100
            plan a1-1;b1-31 -> 101
            plan a99-99 -> 100
            plan a30-30 -> 0
            plan a1-30 -> 0
            """);
        RUNS.run("Terms: unfit when the shortest is above the longest", """
            plan a2-1 -> 100
            plan a30-29 -> 100
            plan a1-1;b10-9 -> 101
            plan a2-2 -> 0
            plan a29-30 -> 0
            """);
    }

    private static void unfitRetries() {
        RUNS.run("Terms: unfit when a retry is above 3", """
            plan a1-1*4 -> 100
            plan a1-1*10 -> 100
            plan a1-1*99 -> 100
            plan a1-1;b1-1*4 -> 101
            plan a1-1*3 -> 0
            activity 0 3 -> 3
            plan a1-1*0 -> 0
            activity 0 3 -> 0
            """);
    }

    private static void unfitNames() {
        for (String link : new String[] {">", "/"}) {
            for (int n = 1; n <= 7; n++) {
                String before = EIGHT.substring(0, 5 * n - 1);
                String next = before + link + LETTERS.charAt(n);
                RUNS.run("Terms: unfit when a name after " + link + " is none of its activities",
                    "plan " + next + " -> " + (100 + n - 1) + "\n"
                    + "plan " + before + link + "z -> " + (100 + n - 1) + "\n"
                    + "plan " + next + ";" + LETTERS.charAt(n) + "1-1 -> 0\n");
            }
            RUNS.run("Terms: unfit when a name after " + link + " is none of its activities: the ninth",
                "plan " + EIGHT + link + "i -> 107\nplan " + EIGHT + link + "a -> 0\n"
                + "plan " + EIGHT + link + "g -> 0\n");
            for (int n = 1; n <= 8; n++) {
                String own = EIGHT.substring(0, 5 * n - 1) + link + LETTERS.charAt(n - 1);
                RUNS.run("Terms: unfit when a name after " + link + " is its own",
                    "plan " + own + " -> " + (100 + n - 1) + "\n");
            }
        }
    }

    private static void unfitRings() {
        RUNS.run("Terms: after itself by way of others, in a ring: of two", """
            plan a1-1>b;b1-1>a -> 200
            plan a1-1;b1-1>c;c1-1>b -> 201
            plan a1-1>b;b1-1 -> 0
            """);
        RUNS.run("Terms: after itself by way of others, in a ring: of eight", """
            plan a1-1>b;b1-1>c;c1-1>d;d1-1>e;e1-1>f;f1-1>g;g1-1>h;h1-1>a -> 200
            plan a1-1>h;b1-1>a;c1-1>b;d1-1>c;e1-1>d;f1-1>e;g1-1>f;h1-1>g -> 200
            plan a1-1>b;b1-1>c;c1-1>d;d1-1>e;e1-1>f;f1-1>g;g1-1>h;h1-1 -> 0
            plan a1-1;b1-1>a;c1-1>b;d1-1>c;e1-1>d;f1-1>e;g1-1>f;h1-1>g -> 0
            """);
        RUNS.run("Terms: in a ring: what is only after one of a ring is not in it", """
            plan a1-1>b;b1-1>c;c1-1>b -> 201
            plan a1-1>b;b1-1>c;c1-1>d;d1-1>e;e1-1>f;f1-1>g;g1-1>h;h1-1>g -> 206
            """);
        RUNS.run("Terms: in a ring: what one of a ring is after is not in it", """
            plan a1-1;b1-1>a>c;c1-1>b -> 201
            """);
        RUNS.run("Terms: in a ring: two ways to one are none", """
            plan a1-1>b>c;b1-1>d;c1-1>d;d1-1 -> 0
            """);
        RUNS.run("Terms: in a ring: instead of makes none", """
            plan a1-1/b;b1-1/a -> 0
            plan a1-1>b;b1-1/a -> 0
            """);
    }

    private static void unfitStarts() {
        RUNS.run("Terms: its earliest start is above its latest", """
            plan a1-1;b1-1>a<0 -> 301
            plan a1-1;b1-1>a<1 -> 0
            plan a30-30;b1-1>a<29 -> 301
            plan a30-30;b1-1>a<30 -> 0
            plan a30-30;b30-30>a;c30-30>b;d9-9>c;e1-1>d<98 -> 304
            plan a30-30;b30-30>a;c30-30>b;d9-9>c;e1-1>d<99 -> 0
            """);
        RUNS.run("Terms: its earliest start is above its latest: 99 where none is said", """
            plan a30-30;b30-30>a;c30-30>b;d10-10>c;e1-1>d -> 304
            plan a30-30;b30-30>a;c30-30>b;d9-10>c;e1-1>d -> 0
            activity 4 5 -> 99
            """);
        RUNS.run("Terms: the earliest being 0", """
            plan a1-1<0;b1-1/a<0 -> 0
            activity 0 5 -> 0
            activity 1 5 -> 0
            """);
        RUNS.run("Terms: the greatest sum of earliest and shortest time of those that it is after", """
            plan a5-9;b4-30;c1-1>a>b -> 0
            activity 2 5 -> 5
            plan a4-9;b5-30;c1-1>a>b -> 0
            activity 2 5 -> 5
            plan a4-9;b1-30>a;c4-4;d1-1>b>c -> 0
            activity 3 5 -> 5
            plan a4-9;b1-30>a;c6-6;d1-1>b>c -> 0
            activity 3 5 -> 6
            plan a1-1>b<9;b1-9>c;c8-8 -> 0
            plan a1-1>b<8;b1-9>c;c8-8 -> 300
            """);
    }

    private static void whichUnfitComesFirst() {
        RUNS.run("Promise 3: the least that fits, before the first activity", """
            plan a2-2>c<1;b1-1>d;c2-2;d1-1>b;e0-1 -> 104
            plan a2-2>c<1;b1-1>d;c2-2;d1-1>b;e1-1 -> 201
            plan a2-2>c<1;b1-1;c2-2;d1-1>b;e1-1 -> 300
            plan a2-2>c<2;b1-1;c2-2;d1-1>b;e1-1 -> 0
            """);
        RUNS.run("Promise 3: the number of the first activity of which that is so", """
            plan a0-0;b0-0 -> 100
            plan a1-1;b1-1*4;c0-0 -> 101
            plan a1-1;b1-1>d;c1-1>d;d1-1>c -> 202
            plan a1-1;b1-1>a<0;c1-1>a<0 -> 301
            plan a1-1;b1-1;c1-1;d1-1;e1-1;f1-1;g1-1;h0-1 -> 107
            plan a1-1;b1-1;c1-1;d1-1;e1-1;f1-1;g1-1>h;h1-1>g -> 206
            plan a1-1;b1-1;c1-1;d1-1;e1-1;f1-1;g1-1;h1-1>a<0 -> 307
            """);
        RUNS.run("Promise 3: what can't stand comes before what is unfit", """
            plan a0-0;b1-1>a>b? -> 14
            plan a99-0*9>z> -> 11
            """);
    }

    private static void newObject() {
        RUNS.run("Promise 1: an empty line", "room -> 64\n");
        RUNS.run("Promise 1: an empty line: submitted", "submit -> 1\n");
        RUNS.run("Promise 1: no plan", """
            activities -> 0
            enable -> ISE
            activity 0 0 -> IOOBE
            could 0 -> IOOBE
            lasts 0 1 -> IOOBE
            draws 0 1 -> IOOBE
            """);
    }

    private static void typedBytes() {
        RUNS.run("Promise 2: the lowest first", "type 0x312D3161 -> true\nsubmit -> 0\n");
        for (int at = 0; at < 4; at++) {
            for (int code = 0; code < 256; code++) {
                int four = 0x61616161 & ~(255 << 8 * at) | code << 8 * at;
                boolean typed = code >= 32 && code <= 126 || code == 0;
                RUNS.run("Promise 2: IllegalArgumentException when one is not 32 .. 126: " + code + " at " + at,
                    "type " + four + " -> " + (typed ? "true" : "IAE") + "\n"
                    + "room -> " + (code == 0 ? 64 - at : typed ? 60 : 64) + "\n");
            }
        }
    }

    private static void typedZeros() {
        RUNS.run("Promise 2: up to the first that is 0", """
            type 0 -> true
            type 0xFF1F7F00 -> true
            type 0x317F0061 -> true
            type 0x80002D31 -> true
            type 0x00000031 -> true
            submit -> 0
            """);
        RUNS.run("Promise 2: up to the first that is 0: none is put", "type 0 -> true\nroom -> 64\n");
        RUNS.run("Promise 2: up to the first that is 0: three are put", "type 0x00616161 -> true\nroom -> 61\n");
        RUNS.run("Promise 2: the characters are put at the end", """
            type 0x61 -> true
            type 0x31 -> true
            type 0x2D -> true
            type 0x3331 -> true
            submit -> 0
            enable -> 1
            minutes 12 -> 0
            mode -> 1
            minutes 1 -> 0
            mode -> 0
            """);
    }

    private static void typedBeyondTheEnd() {
        String sixty = "a1-1" + ">b".repeat(26) + ";b1-";
        for (int more = 1; more <= 4; more++) {
            String four = "0x31313131".substring(0, 2 + 2 * more);
            String put = "1".repeat(4 - more);
            RUNS.run("Promise 2: false when it would have more than 64: 64 with " + more,
                "text " + sixty + put + "\ntype " + four + " -> true\nroom -> 0\nsubmit -> 63\n");
            RUNS.run("Promise 2: false when it would have more than 64: 65 with " + more,
                "text " + sixty + put + "1\ntype " + four + " -> false\nroom -> " + (more - 1) + "\n");
        }
        RUNS.run("Promise 2: false, changing nothing: nothing of the four is put",
            "text " + sixty + "1\ntype 0x31313131 -> false\nsubmit -> 0\n");
        RUNS.run("Promise 2: none are not too many for a full line",
            "text " + sixty + "11>b\nroom -> 0\ntype 0 -> true\ntype 0x61616100 -> true\ntype 0x61 -> false\n");
        RUNS.run("Promise 2: IllegalArgumentException, before that",
            "text " + sixty + "1111\nroom -> 0\ntype 0x1F -> IAE\ntype 0x7F -> IAE\ntype 0x7F616161 -> IAE\n"
            + "type 0x7F006161 -> false\nsubmit -> 63\n");
        RUNS.run("Promise 2: IllegalArgumentException, changing nothing",
            "text a1-\ntype 0x7F31 -> IAE\ntype 0x1F313131 -> IAE\nsubmit -> 4\n");
    }

    private static void submitted() {
        RUNS.run("Promise 3: the line becomes the plan, and is empty then: 0", """
            plan a1-1*2;b1-1 -> 0
            room -> 64
            activities -> 2
            all 0 -> 0 -1 0 2 0 0
            """);
        RUNS.run("Promise 3: its activities wait, it is not enabled", """
            plan a1-1;b1-1 -> 0
            mode -> 0
            states -> 0 0
            could 0 -> false
            minutes 5 -> 0
            states -> 0 0
            cancel -> ISE
            """);
        RUNS.run("Promise 3: its activities wait: of the plan before none is left", """
            plan a2-2E9D9H9*3;b1-1>a -> 0
            enable -> 1
            minutes 3 -> 1
            states -> 2 2
            plan a2-2;b1-1 -> 0
            states -> 0 0
            all 0 -> 0 -1 0 0 0 0
            all 1 -> 0 -1 0 0 0 0
            enable -> 2
            level 2 -> 0
            """);
        RUNS.run("Promise 3: its activities wait: of the plans before none is left", """
            plan a2-2E9D9H9<0*3/c;b1-1>c;c1-1 -> 0
            plan a2-2E9D9H9<0*3/c;b1-1>c;c1-1 -> 0
            lasts 0 1
            plan a2-2;b1-1;c1-1 -> 0
            all 0 -> 0 -1 0 0 0 0
            all 1 -> 0 -1 0 0 0 0
            enable -> 3
            levels -> 1000 0 0
            lowest -> 1000
            minutes 1 -> 0
            levels -> 1000 0 0
            states -> 1 2 2
            """);
    }

    private static void notSubmitted() {
        RUNS.run("Promise 3: otherwise the line is empty: no plan", "plan a1-1E -> 6\nroom -> 64\n");
        RUNS.run("Promise 3: otherwise the line is empty: unfit", "plan a1-1*4 -> 100\nroom -> 64\n");
        RUNS.run("Promise 3: otherwise the line is empty: a ring", "plan a1-1>b;b1-1>a -> 200\nroom -> 64\n");
        RUNS.run("Promise 3: otherwise the line is empty: too late", "plan a1-1;b1-1>a<0 -> 301\nroom -> 64\n");
        for (String wrong : new String[] {"? -> 1", "a1-1;b1-1;c1-1E -> 16", "a1-1;b1-1;c0-1 -> 102",
            "a1-1;b1-1>c;c1-1>b -> 201", "a9-9;b1-1>a<8 -> 301"}) {
            RUNS.run("Promise 3: otherwise the plan stays", """
                plan a2-2E5D4H3*1;b3-3>a -> 0
                lasts 1 1
                """ + "plan " + wrong + "\n" + """
                activities -> 2
                all 0 -> 0 -1 0 1 0 0
                all 1 -> 0 -1 0 0 0 2
                enable -> 1
                levels -> 1000 0 3
                minutes 2 -> 1
                levels -> 990 8 0
                minutes 1 -> 0
                mode -> 0
                """ + "plan " + wrong + "\n" + """
                all 0 -> 2 0 2 1 1 0
                all 1 -> 2 2 1 0 1 2
                """);
        }
        RUNS.run("Promise 3: otherwise no plan stays no plan", "plan a1-0 -> 100\nactivities -> 0\nenable -> ISE\n");
        RUNS.run("Promise 3: the place (from 0) + 1: the first and the last of a full line",
            "plan " + "~".repeat(64) + " -> 1\n"
            + "plan a1-1" + ">b".repeat(27) + ";b1-1~ -> 64\n");
    }

    private static void submitInOtherModes() {
        RUNS.run("Promise 3: IllegalStateException, changing nothing, in PLAN", """
            plan a5-5 -> 0
            text a1-1;b1-1
            enable -> 1
            submit -> ISE
            activities -> 1
            minutes 4 -> 0
            submit -> ISE
            minutes 1 -> 0
            submit -> 0
            activities -> 2
            """);
        RUNS.run("Promise 3: IllegalStateException, changing nothing, in RETURN", """
            plan a5-5 -> 0
            text a1-1;b1-1
            enable -> 1
            cancel
            submit -> ISE
            minutes 4 -> 0
            submit -> ISE
            activities -> 1
            minutes 1 -> 0
            submit -> 0
            activities -> 2
            """);
        RUNS.run("Promise 3: IllegalStateException also for a line that is no plan", """
            plan a5-5 -> 0
            enable -> 1
            submit -> ISE
            text a0-
            submit -> ISE
            minutes 5 -> 0
            submit -> 4
            """);
    }

    private static void activities() {
        RUNS.run("Promise 17: how many activities the plan has", "activities -> 0\nplan a1-1 -> 0\nactivities -> 1\n"
            + "plan " + EIGHT + " -> 0\nactivities -> 8\nplan a1-1;b1-1 -> 0\nactivities -> 2\n");
        RUNS.run("Promise 17: how many activities the plan has, in every mode", """
            plan a1-1;b5-5;c1-1>b -> 0
            enable -> 2
            activities -> 3
            minutes 1 -> 0
            activities -> 3
            cancel
            activities -> 3
            minutes 5 -> 0
            activities -> 3
            """);
    }
}
