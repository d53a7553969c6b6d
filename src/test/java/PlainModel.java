import java.util.ArrayList;
import java.util.LinkedHashSet;
import java.util.List;
import java.util.Set;
import java.util.TreeMap;
import java.util.regex.Matcher;
import java.util.regex.Pattern;

/**
 * The document once more, as slowly and plainly as can be and by other means (lines are matched
 * by a pattern, ways home are walked forward, levels are tried one by one), to be compared with
 * RoverMinutes over many runs.
 */
final class PlainModel {
    static final String[] STATES = {"WAITING", "RUNNING", "DONE", "ABORTED", "SKIPPED"};

    private static final Pattern PLAN = planPattern();
    private static final Pattern OPTION = Pattern.compile("([EDH<*])([0-9]+)|([>/])([a-z])");

    static final class Act {
        int shortest;
        int longest;
        final TreeMap<Character, Integer> options = new TreeMap<>();
        final Set<Integer> after = new LinkedHashSet<>();
        final Set<Integer> instead = new LinkedHashSet<>();
        String state = "WAITING";
        Integer started;
        int age;
        int left;
        int starts;
        Integer saidMinutes;
        Integer saidDraw;
        int mustLast;
        int mustDraw;

        int option(char sign) {
            return options.getOrDefault(sign, sign == '<' ? 99 : 0);
        }

        boolean is(String... states) {
            return List.of(states).contains(state);
        }
    }

    private String line = "";
    private List<Act> plan = new ArrayList<>();
    private String mode = "IDLE";
    private int time;
    private int energy = 1000;
    private int store;
    private final int[] curve = new int[24];
    private Integer trueGain;
    private int homeMinutes = 5;
    private int homeDraw = 20;
    private int enabledAt;
    private int returnMinutes;

    private static Pattern planPattern() {
        String number = "(?:0|[1-9][0-9]?)";
        String rest = "";
        for (char name = 'h'; name >= 'a'; name--) {
            String one = name + number + "-" + number + "(?:[EDH<*]" + number + "|[>/][a-z])*";
            rest = name == 'a' ? one + rest : "(?:;" + one + rest + ")?";
        }
        return Pattern.compile(rest);
    }

    public boolean type(int four) {
        String more = "";
        for (int k = 0; k < 32; k += 8) {
            int code = (four >> k) & 0xFF;
            if (code == 0) {
                break;
            }
            more += (char) code;
        }
        if (!more.matches("[ -~]*")) {
            throw new IllegalArgumentException();
        }
        if ((line + more).length() > 64) {
            return false;
        }
        line += more;
        return true;
    }

    /** The place that can't stand, or -1. */
    static int wrongPlace(String line) {
        int end = line.length() + 1;
        for (int size = line.length(); size >= 0; size--) {
            Matcher matcher = PLAN.matcher(line.substring(0, size));
            boolean stands = matcher.matches() || matcher.hitEnd();
            if (!stands) {
                end = size - 1;
            }
        }
        if (end > line.length()) {
            end = PLAN.matcher(line).matches() ? -1 : line.length();
        }
        int twice = secondOption(end == -1 ? line : line.substring(0, end));
        return twice >= 0 ? twice : end;
    }

    private static int secondOption(String line) {
        String seen = "";
        for (int k = 0; k < line.length(); k++) {
            char c = line.charAt(k);
            if (c == ';') {
                seen = "";
            } else if ("EDH<*".indexOf(c) >= 0) {
                if (seen.indexOf(c) >= 0) {
                    return k;
                }
                seen += c;
            }
        }
        return -1;
    }

    private static List<Act> planOf(String line) {
        List<Act> acts = new ArrayList<>();
        for (String text : line.split(";")) {
            Act act = new Act();
            Matcher times = Pattern.compile(".([0-9]+)-([0-9]+)(.*)").matcher(text);
            times.matches();
            act.shortest = Integer.parseInt(times.group(1));
            act.longest = Integer.parseInt(times.group(2));
            Matcher option = OPTION.matcher(times.group(3));
            while (option.find()) {
                if (option.group(1) != null) {
                    act.options.put(option.group(1).charAt(0), Integer.parseInt(option.group(2)));
                } else {
                    (option.group(3).equals(">") ? act.after : act.instead).add(option.group(4).charAt(0) - 'a');
                }
            }
            act.left = act.option('*');
            acts.add(act);
        }
        return acts;
    }

    private static boolean wrongInItself(List<Act> acts, int i) {
        Act act = acts.get(i);
        Set<Integer> names = new LinkedHashSet<>(act.after);
        names.addAll(act.instead);
        return act.shortest == 0 || act.longest == 0 || act.shortest > 30 || act.longest > 30
            || act.shortest > act.longest || act.option('*') > 3
            || names.stream().anyMatch(n -> n >= acts.size() || n == i);
    }

    /** Whether a way of at most so many steps leads from one to another. */
    private static boolean leads(List<Act> acts, int from, int to, int steps) {
        for (int next : acts.get(from).after) {
            if (next == to || steps > 1 && leads(acts, next, to, steps - 1)) {
                return true;
            }
        }
        return false;
    }

    private static int earliest(List<Act> acts, int i) {
        return acts.get(i).after.stream().mapToInt(j -> earliest(acts, j) + acts.get(j).shortest).max().orElse(0);
    }

    private static int unfit(List<Act> acts) {
        for (int which = 1; which <= 3; which++) {
            for (int i = 0; i < acts.size(); i++) {
                boolean so = which == 1 ? wrongInItself(acts, i)
                    : which == 2 ? leads(acts, i, i, acts.size())
                    : earliest(acts, i) > acts.get(i).option('<');
                if (so) {
                    return 100 * which + i;
                }
            }
        }
        return 0;
    }

    public int submit() {
        if (!mode.equals("IDLE")) {
            throw new IllegalStateException();
        }
        String text = line;
        line = "";
        int wrong = wrongPlace(text);
        if (wrong >= 0) {
            return wrong + 1;
        }
        List<Act> acts = planOf(text);
        int unfit = unfit(acts);
        if (unfit == 0) {
            plan = acts;
        }
        return unfit;
    }

    private int lower(int minute) {
        return curve[minute % 24];
    }

    private static int goOn(int level, int gain, int draw) {
        return Math.min(1000, level + gain - draw);
    }

    private boolean open(int level, int minute) {
        int at = level;
        for (int m = minute + 1; m <= minute + homeMinutes; m++) {
            at = goOn(at, lower(m), homeDraw);
            if (at < 0) {
                return false;
            }
        }
        return true;
    }

    private List<Act> running() {
        return plan.stream().filter(a -> a.is("RUNNING")).toList();
    }

    private static int mayLast(Act act) {
        return act.is("RUNNING") ? act.longest - act.age : act.longest;
    }

    /** The levels from now on that an envelope goes to. */
    private List<Integer> path(List<Act> acts) {
        List<Integer> levels = new ArrayList<>(List.of(energy));
        int minutes = acts.stream().mapToInt(PlainModel::mayLast).max().orElse(0);
        for (int k = 1; k <= minutes; k++) {
            int draw = 0;
            for (Act act : acts) {
                draw += mayLast(act) >= k ? act.option('E') : 0;
            }
            levels.add(goOn(levels.get(k - 1), lower(time + k), draw));
        }
        return levels;
    }

    private boolean holds(List<Act> acts) {
        if (acts.stream().mapToInt(a -> a.option('H')).sum() > 100) {
            return false;
        }
        if (store + acts.stream().mapToInt(a -> a.option('D') * mayLast(a)).sum() > 500) {
            return false;
        }
        List<Integer> levels = path(acts);
        for (int k = 0; k < levels.size(); k++) {
            if (levels.get(k) < 0 || !open(levels.get(k), time + k)) {
                return false;
            }
        }
        return true;
    }

    private boolean mayStart(Act act) {
        if (!act.is("WAITING")
            || !act.after.stream().allMatch(j -> plan.get(j).is("DONE"))
            || !act.instead.stream().allMatch(j -> plan.get(j).is("ABORTED", "SKIPPED"))) {
            return false;
        }
        List<Act> with = new ArrayList<>(running());
        with.add(act);
        return holds(with);
    }

    private void skip() {
        boolean changed = true;
        while (changed) {
            changed = false;
            for (Act act : plan) {
                if (act.is("WAITING") && (time - enabledAt > act.option('<')
                    || act.after.stream().anyMatch(j -> plan.get(j).is("ABORTED", "SKIPPED"))
                    || act.instead.stream().anyMatch(j -> plan.get(j).is("DONE")))) {
                    act.state = "SKIPPED";
                    changed = true;
                }
            }
        }
    }

    private int start() {
        int count = 0;
        for (Act act : plan) {
            if (mayStart(act)) {
                act.state = "RUNNING";
                act.started = time;
                act.age = 0;
                act.starts++;
                act.mustLast = act.saidMinutes == null ? act.longest : act.saidMinutes;
                act.mustDraw = act.saidDraw == null ? act.option('E') : act.saidDraw;
                act.saidMinutes = null;
                act.saidDraw = null;
                count++;
            }
        }
        if (plan.stream().noneMatch(a -> a.is("WAITING", "RUNNING"))) {
            mode = "IDLE";
        }
        return count;
    }

    public int enable() {
        if (!mode.equals("IDLE") || plan.isEmpty() || !open(energy, time)) {
            throw new IllegalStateException();
        }
        for (Act act : plan) {
            act.state = "WAITING";
            act.left = act.option('*');
            act.started = null;
            act.age = 0;
            act.starts = 0;
        }
        mode = "PLAN";
        enabledAt = time;
        skip();
        return start();
    }

    private void goHome() {
        for (Act act : plan) {
            act.state = act.is("RUNNING") ? "ABORTED" : act.is("WAITING") ? "SKIPPED" : act.state;
        }
        mode = "RETURN";
        returnMinutes = 0;
    }

    public void cancel() {
        if (!mode.equals("PLAN")) {
            throw new IllegalStateException();
        }
        goHome();
    }

    private int minute() {
        time++;
        int gain = trueGain == null ? lower(time) : trueGain;
        int draw = mode.equals("IDLE") ? 0
            : mode.equals("RETURN") ? homeDraw
            : running().stream().mapToInt(a -> a.mustDraw).sum();
        energy = Math.max(0, goOn(energy, gain, draw));
        if (mode.equals("RETURN")) {
            returnMinutes++;
            mode = returnMinutes == homeMinutes ? "IDLE" : "RETURN";
            return 0;
        }
        if (mode.equals("IDLE")) {
            return 0;
        }
        store = Math.min(500, store + running().stream().mapToInt(a -> a.option('D')).sum());
        for (Act act : running()) {
            act.age++;
            boolean drewMore = act.mustDraw > act.option('E');
            boolean shouldLastLonger = act.age == act.longest && act.mustLast > act.longest;
            if (drewMore || shouldLastLonger) {
                act.state = act.left > 0 ? "WAITING" : "ABORTED";
                act.left = Math.max(0, act.left - 1);
            } else if (act.age == act.mustLast) {
                act.state = "DONE";
            }
        }
        skip();
        if (!open(energy, time)) {
            goHome();
            return 0;
        }
        return start();
    }

    public int minutes(int n) {
        if (n < 0 || n > 60) {
            throw new IllegalArgumentException();
        }
        int count = 0;
        for (int k = 0; k < n; k++) {
            count += minute();
        }
        return count;
    }

    private Act act(int i) {
        if (i < 0 || i >= plan.size()) {
            throw new IndexOutOfBoundsException();
        }
        return plan.get(i);
    }

    private static void need(boolean right) {
        if (!right) {
            throw new IllegalArgumentException();
        }
    }

    private void needIdle() {
        if (!mode.equals("IDLE")) {
            throw new IllegalStateException();
        }
    }

    public void lasts(int i, int minutes) {
        Act act = act(i);
        need(minutes >= 1 && minutes <= 40);
        act.saidMinutes = minutes;
    }

    public void draws(int i, int draw) {
        Act act = act(i);
        need(draw >= 0 && draw <= 200);
        act.saidDraw = draw;
    }

    public void curve(int place, int gain) {
        if (place < 0 || place > 23) {
            throw new IndexOutOfBoundsException();
        }
        need(gain >= 0 && gain <= 50);
        curve[place] = gain;
    }

    public void gain(int g) {
        need(g >= -1 && g <= 100);
        trueGain = g == -1 ? null : Integer.valueOf(g);
    }

    public void home(int minutes, int draw) {
        need(minutes >= 1 && minutes <= 20 && draw >= 0 && draw <= 99);
        needIdle();
        homeMinutes = minutes;
        homeDraw = draw;
    }

    public void fill(int newEnergy, int newStore) {
        need(newEnergy >= 0 && newEnergy <= 1000 && newStore >= 0 && newStore <= 500);
        needIdle();
        energy = newEnergy;
        store = newStore;
    }

    public int now() {
        return time;
    }

    public int mode() {
        return List.of("IDLE", "PLAN", "RETURN").indexOf(mode);
    }

    public int level(int which) {
        int[] levels = {energy, store, running().stream().mapToInt(a -> a.option('H')).sum()};
        if (which < 0 || which >= levels.length) {
            throw new IndexOutOfBoundsException();
        }
        return levels[which];
    }

    public int reserve() {
        for (int level = 0; level <= 1000; level++) {
            if (open(level, time)) {
                return level;
            }
        }
        return -1;
    }

    public int activities() {
        return plan.size();
    }

    public int activity(int i, int what) {
        Act act = act(i);
        int[] answers = {List.of(STATES).indexOf(act.state), act.started == null ? -1 : act.started,
            act.age, act.left, act.starts, earliest(plan, i)};
        if (what < 0 || what >= answers.length) {
            throw new IndexOutOfBoundsException();
        }
        return answers[what];
    }

    public int lowest() {
        return Math.max(0, path(running()).stream().mapToInt(l -> l).min().orElse(0));
    }

    public boolean could(int i) {
        Act act = act(i);
        return mode.equals("PLAN") && mayStart(act);
    }
}
