import java.lang.reflect.InvocationTargetException;
import java.util.ArrayList;
import java.util.Arrays;
import java.util.List;

/**
 * Runs of calls on fresh objects, written as text: a line is a call with its arguments and, behind
 * ->, the answer that is due. A void call without -> has to return. An exception is written by
 * its capitals (ISE, IAE, IOOBE).
 *
 * <p>A call is refused when it throws or when type answers false: two more objects, one with that
 * call and one without, have to go on alike then, so that it left even the line, what was said, the
 * curve, the gain and the return as they were.
 *
 * <p>Beside the calls of the face there are: text T (types T), plan T (types T and submits),
 * room (how many characters the line still takes, and takes them), states (of all activities),
 * all I (all of one activity), levels (all three), times N CALL.
 */
final class Runs {
    private final String name;
    private int checked;
    private int wrong;

    Runs(String name) {
        this.name = name;
    }

    void run(String title, String lines) {
        RoverMinutes rover = new RoverMinutes();
        List<String> calls = new ArrayList<>();
        int number = 0;
        for (String raw : lines.split("\n")) {
            String line = raw.strip();
            number++;
            if (!line.isEmpty() && !line.startsWith("#")) {
                check(rover, calls, title + ", line " + number, line);
            }
        }
    }

    void due(String what, Object got, Object want) {
        checked++;
        if (!String.valueOf(got).equals(String.valueOf(want))) {
            wrong++;
            System.out.println(name + ": " + what + " answered " + got + ", due is " + want);
        }
    }

    void end() {
        System.out.println(name + ": " + checked + " answers looked at, " + wrong + " not as due");
        if (wrong != 0 || checked == 0) {
            System.exit(1);
        }
    }

    private void check(RoverMinutes rover, List<String> calls, String where, String line) {
        int arrow = line.lastIndexOf(" -> ");
        String call = arrow < 0 ? line : line.substring(0, arrow).strip();
        String want = arrow < 0 ? "ok" : line.substring(arrow + 4).strip();
        String got = answer(rover, call);
        due(where + ": " + call, got, want);
        List<String> before = List.copyOf(calls);
        calls.add(call);
        if (got.matches("ISE|IAE|IOOBE") || got.equals("false") && call.startsWith("type ")) {
            due(where + ": the state behind the refused " + call, allOf(again(calls)), allOf(again(before)));
            due(where + ": the line behind the refused " + call, lineOf(calls), lineOf(before));
            due(where + ": what follows the refused " + call, future(again(calls)), future(again(before)));
        }
    }

    private static RoverMinutes again(List<String> calls) {
        RoverMinutes rover = new RoverMinutes();
        for (String call : calls) {
            answer(rover, call);
        }
        return rover;
    }

    /** How long the line is, and what comes of it as soon as it can be submitted. */
    private static String lineOf(List<String> calls) {
        RoverMinutes rover = again(calls);
        rest(rover);
        return answer(again(calls), "room") + " " + rover.submit() + " " + nextHour(rover);
    }

    /** The next minute, and the next enabling, which shows what is said. */
    private static String future(RoverMinutes rover) {
        String next = answer(rover, "minutes 1") + " " + allOf(rover);
        rest(rover);
        return next + " " + nextHour(rover);
    }

    private static void rest(RoverMinutes rover) {
        answer(rover, "cancel");
        answer(rover, "minutes 20");
    }

    private static String nextHour(RoverMinutes rover) {
        StringBuilder told = new StringBuilder(answer(rover, "fill 1000 0"));
        told.append(' ').append(rover.reserve()).append(' ').append(answer(rover, "enable"));
        for (int k = 0; k < 45; k++) {
            told.append(' ').append(rover.minutes(1)).append(' ').append(rover.mode());
            told.append(' ').append(rover.level(0)).append(' ').append(rover.level(1));
        }
        return told.append(' ').append(allOf(rover)).toString();
    }

    static String answer(RoverMinutes rover, String call) {
        try {
            return call(rover, call);
        } catch (RuntimeException e) {
            return shortName(e);
        }
    }

    private static String shortName(Throwable e) {
        return e.getClass().getSimpleName().replaceAll("[a-z]", "");
    }

    private static String call(RoverMinutes rover, String call) {
        int space = call.indexOf(' ');
        String verb = space < 0 ? call : call.substring(0, space);
        String rest = space < 0 ? "" : call.substring(space + 1);
        switch (verb) {
            case "text":
                return typeAll(rover, rest);
            case "plan":
                String typed = typeAll(rover, rest);
                return typed.equals("ok") ? String.valueOf(rover.submit()) : "typed " + typed;
            case "room":
                int room = 0;
                while (room < 99 && rover.type('~')) {
                    room++;
                }
                return String.valueOf(room);
            case "states":
                return join(rover, rover.activities(), (r, i) -> r.activity(i, 0));
            case "all":
                int one = Integer.parseInt(rest);
                return join(rover, 6, (r, what) -> r.activity(one, what));
            case "levels":
                return join(rover, 3, RoverMinutes::level);
            case "times":
                int gap = rest.indexOf(' ');
                String last = "none";
                for (int k = Integer.parseInt(rest.substring(0, gap)); k > 0; k--) {
                    last = call(rover, rest.substring(gap + 1));
                }
                return last;
            default:
                return face(rover, verb, numbers(rest));
        }
    }

    /** A call of the face by its name and numbers, on a rover or on whatever has the same methods. */
    static String face(Object target, String verb, int[] numbers) {
        Class<?>[] types = new Class<?>[numbers.length];
        Arrays.fill(types, int.class);
        Object[] values = Arrays.stream(numbers).boxed().toArray();
        try {
            Object answer = target.getClass().getDeclaredMethod(verb, types).invoke(target, values);
            return answer == null ? "ok" : answer.toString();
        } catch (InvocationTargetException e) {
            return shortName(e.getCause());
        } catch (ReflectiveOperationException e) {
            return "no such call";
        }
    }

    private static int[] numbers(String rest) {
        if (rest.isBlank()) {
            return new int[0];
        }
        String[] words = rest.strip().split(" +");
        int[] numbers = new int[words.length];
        for (int k = 0; k < words.length; k++) {
            numbers[k] = Long.decode(words[k]).intValue();
        }
        return numbers;
    }

    /** Four characters a call, the last call with what is left. */
    static List<Integer> fours(String text) {
        List<Integer> fours = new ArrayList<>();
        for (int from = 0; from < text.length(); from += 4) {
            int four = 0;
            for (int k = 0; k < 4 && from + k < text.length(); k++) {
                four |= text.charAt(from + k) << (8 * k);
            }
            fours.add(four);
        }
        return fours;
    }

    private static String typeAll(RoverMinutes rover, String text) {
        for (int four : fours(text)) {
            if (!rover.type(four)) {
                return "no room";
            }
        }
        return "ok";
    }

    private interface Question {
        int ask(RoverMinutes rover, int which);
    }

    private static String join(RoverMinutes rover, int n, Question question) {
        StringBuilder all = new StringBuilder();
        for (int k = 0; k < n; k++) {
            all.append(k == 0 ? "" : " ").append(question.ask(rover, k));
        }
        return all.toString();
    }

    /** All that can be asked, but for the line and what was said. */
    static String allOf(RoverMinutes rover) {
        StringBuilder all = new StringBuilder();
        all.append("now ").append(rover.now()).append(" mode ").append(rover.mode());
        all.append(" levels ").append(call(rover, "levels"));
        all.append(" reserve ").append(rover.reserve()).append(" lowest ").append(rover.lowest());
        for (int i = 0; i < rover.activities(); i++) {
            all.append(" [").append(call(rover, "all " + i)).append(' ').append(rover.could(i)).append(']');
        }
        return all.toString();
    }
}
