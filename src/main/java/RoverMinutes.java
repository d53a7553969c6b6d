/**
 * An executive on board a rover: it reads plans of activities, starts them minute by minute when
 * the worst that may come still leaves enough for the way home, and always finds back to rest.
 */
public final class RoverMinutes {
    public static final int NONE = -1;

    private static final int IDLE = 0;
    private static final int PLAN = 1;
    private static final int RETURN = 2;

    private static final int MOST_MINUTES_A_CALL = 60;
    private static final int MOST_SAID_MINUTES = 40;
    private static final int MOST_SAID_DRAW = 200;
    private static final int MOST_LOWER_GAIN = 50;
    private static final int MOST_TRUE_GAIN = 100;
    private static final int MOST_HOME_MINUTES = 20;
    private static final int MOST_HOME_DRAW = 99;

    private final Line line;
    private final PlanReader reader;
    private final Supply supply;
    private final Envelope envelope;
    private Plan plan;
    // A line is read into the draft, so that the plan stays when the line is none.
    private Plan draft;
    private int mode;
    private int time;
    private int enabledAt;
    private int returnLeft;

    public RoverMinutes() {
        line = new Line();
        reader = new PlanReader(line);
        supply = new Supply();
        envelope = new Envelope();
        plan = new Plan();
        draft = new Plan();
        mode = IDLE;
    }

    public boolean type(int four) throws IllegalArgumentException {
        int size = 0;
        while (size < 4 && byteOf(four, size) != 0) {
            if (!Line.canHold(byteOf(four, size))) {
                throw new IllegalArgumentException();
            }
            size++;
        }
        if (!line.hasRoomFor(size)) {
            return false;
        }
        for (int k = 0; k < size; k++) {
            line.put((char) byteOf(four, k));
        }
        return true;
    }

    public int submit() throws IllegalStateException {
        if (mode != IDLE) {
            throw new IllegalStateException();
        }
        int fault = reader.read(draft);
        line.clear();
        if (fault == 0) {
            fault = draft.findUnfit();
        }
        if (fault == 0) {
            Plan before = plan;
            plan = draft;
            draft = before;
            plan.makeReady();
        }
        return fault;
    }

    public int enable() throws IllegalStateException {
        if (mode != IDLE || plan.count == 0 || !supply.isOpen(supply.energy, time)) {
            throw new IllegalStateException();
        }
        plan.makeReady();
        mode = PLAN;
        enabledAt = time;
        plan.skipHopeless(0);
        return startAndSettle();
    }

    public void cancel() throws IllegalStateException {
        if (mode != PLAN) {
            throw new IllegalStateException();
        }
        beginReturn();
    }

    public int minutes(int n) throws IllegalArgumentException {
        if (n < 0 || n > MOST_MINUTES_A_CALL) {
            throw new IllegalArgumentException();
        }
        int started = 0;
        for (int k = 0; k < n; k++) {
            time++;
            if (mode == PLAN) {
                started += passInPlan();
            } else if (mode == RETURN) {
                passInReturn();
            } else {
                supply.pass(time, 0);
            }
        }
        return started;
    }

    public void lasts(int i, int minutes) throws IndexOutOfBoundsException, IllegalArgumentException {
        if (!plan.has(i)) {
            throw new IndexOutOfBoundsException();
        }
        if (minutes < 1 || minutes > MOST_SAID_MINUTES) {
            throw new IllegalArgumentException();
        }
        plan.members[i].saidMinutes = minutes;
    }

    public void draws(int i, int energy) throws IndexOutOfBoundsException, IllegalArgumentException {
        if (!plan.has(i)) {
            throw new IndexOutOfBoundsException();
        }
        if (energy < 0 || energy > MOST_SAID_DRAW) {
            throw new IllegalArgumentException();
        }
        plan.members[i].saidDraw = energy;
    }

    public void curve(int place, int gain) throws IndexOutOfBoundsException, IllegalArgumentException {
        if (place < 0 || place >= Supply.PLACES) {
            throw new IndexOutOfBoundsException();
        }
        if (gain < 0 || gain > MOST_LOWER_GAIN) {
            throw new IllegalArgumentException();
        }
        supply.setLowerGain(place, gain);
    }

    public void gain(int g) throws IllegalArgumentException {
        if (g < NONE || g > MOST_TRUE_GAIN) {
            throw new IllegalArgumentException();
        }
        supply.trueGain = g;
    }

    public void home(int minutes, int draw) throws IllegalArgumentException, IllegalStateException {
        if (minutes < 1 || minutes > MOST_HOME_MINUTES || draw < 0 || draw > MOST_HOME_DRAW) {
            throw new IllegalArgumentException();
        }
        if (mode != IDLE) {
            throw new IllegalStateException();
        }
        supply.setWayHome(minutes, draw);
    }

    public void fill(int energy, int store) throws IllegalArgumentException, IllegalStateException {
        if (energy < 0 || energy > Supply.MOST_ENERGY || store < 0 || store > Supply.MOST_STORE) {
            throw new IllegalArgumentException();
        }
        if (mode != IDLE) {
            throw new IllegalStateException();
        }
        supply.energy = energy;
        supply.store = store;
    }

    public int now() {
        return time;
    }

    public int mode() {
        return mode;
    }

    public int level(int which) throws IndexOutOfBoundsException {
        switch (which) {
            case 0:
                return supply.energy;
            case 1:
                return supply.store;
            case 2:
                return plan.runningHeat();
            default:
                throw new IndexOutOfBoundsException();
        }
    }

    public int reserve() {
        return supply.needBehind(time);
    }

    public int activities() {
        return plan.count;
    }

    public int activity(int i, int what) throws IndexOutOfBoundsException {
        if (!plan.has(i)) {
            throw new IndexOutOfBoundsException();
        }
        Activity one = plan.members[i];
        switch (what) {
            case 0:
                return one.state;
            case 1:
                return one.startedIn;
            case 2:
                return one.lasted;
            case 3:
                return one.retriesLeft;
            case 4:
                return one.starts;
            case 5:
                return one.earliest;
            default:
                throw new IndexOutOfBoundsException();
        }
    }

    public int lowest() {
        envelope.gather(plan, NONE);
        return envelope.deepest(supply, time);
    }

    public boolean could(int i) throws IndexOutOfBoundsException {
        if (!plan.has(i)) {
            throw new IndexOutOfBoundsException();
        }
        return mode == PLAN && mayStart(i);
    }

    private static int byteOf(int four, int k) {
        return four >>> (8 * k) & 255;
    }

    private int passInPlan() {
        supply.pass(time, plan.runningDraw());
        supply.keep(plan.runningData());
        plan.growOlder();
        plan.skipHopeless(time - enabledAt);
        if (!supply.isOpen(supply.energy, time)) {
            beginReturn();
            return 0;
        }
        return startAndSettle();
    }

    private void passInReturn() {
        supply.pass(time, supply.homeDraw);
        returnLeft--;
        if (returnLeft <= 0) {
            mode = IDLE;
        }
    }

    private void beginReturn() {
        plan.giveUp();
        mode = RETURN;
        returnLeft = supply.homeMinutes;
    }

    /** Starts what may start, and rests when nothing is left to do; answers how many were started. */
    private int startAndSettle() {
        int started = 0;
        for (int i = 0; i < plan.count; i++) {
            if (mayStart(i)) {
                plan.members[i].start(time);
                started++;
            }
        }
        if (plan.isOver()) {
            mode = IDLE;
        }
        return started;
    }

    private boolean mayStart(int i) {
        if (!plan.isReady(i)) {
            return false;
        }
        envelope.gather(plan, i);
        return envelope.holds(supply, time);
    }

    /** What has been typed and not yet submitted. */
    private static final class Line {
        static final int MOST = 64;

        final char[] text;
        int length;

        Line() {
            text = new char[MOST];
        }

        static boolean canHold(int code) {
            return code >= 32 && code <= 126;
        }

        boolean hasRoomFor(int size) {
            return length + size <= MOST;
        }

        void put(char c) {
            if (length < MOST) {
                text[length] = c;
                length++;
            }
        }

        void clear() {
            length = 0;
        }
    }

    /** Reads a line as a plan; it stays at the place that can't stand where it is. */
    private static final class PlanReader {
        private static final String NUMBERED = "EDH<*";

        private final Line line;
        private int at;

        PlanReader(Line line) {
            this.line = line;
        }

        /** Answers 0, or 1 more than the place at which the line is no plan. */
        int read(Plan plan) {
            at = 0;
            for (int i = 0; i < Plan.MOST; i++) {
                Activity one = plan.members[i];
                one.clear();
                if (i > 0 && !take(';') || !readTimes(one, (char) ('a' + i)) || !readOptions(one)) {
                    return at + 1;
                }
                plan.count = i + 1;
                if (at == line.length) {
                    return 0;
                }
            }
            return at + 1;
        }

        private boolean readTimes(Activity one, char name) {
            if (!take(name)) {
                return false;
            }
            one.shortest = takeNumber();
            if (one.shortest == NONE || !take('-')) {
                return false;
            }
            one.longest = takeNumber();
            return one.longest != NONE;
        }

        /** Ends with true before a character that is no option: what may follow one is not known here. */
        private boolean readOptions(Activity one) {
            int seen = 0;
            for (int k = 0; k < Line.MOST && at < line.length; k++) {
                char sign = line.text[at];
                int kind = NUMBERED.indexOf(sign);
                if (kind >= 0) {
                    if ((seen >> kind & 1) != 0) {
                        return false;
                    }
                    seen |= 1 << kind;
                    at++;
                    if (!readValue(one, kind)) {
                        return false;
                    }
                } else if (sign == '>' || sign == '/') {
                    at++;
                    if (!readLink(one, sign)) {
                        return false;
                    }
                } else {
                    return true;
                }
            }
            return true;
        }

        private boolean readValue(Activity one, int kind) {
            int value = takeNumber();
            if (value == NONE) {
                return false;
            }
            switch (kind) {
                case 0:
                    one.energy = value;
                    break;
                case 1:
                    one.data = value;
                    break;
                case 2:
                    one.heat = value;
                    break;
                case 3:
                    one.latest = value;
                    break;
                default:
                    one.retries = value;
                    break;
            }
            return true;
        }

        private boolean readLink(Activity one, char sign) {
            if (at >= line.length || line.text[at] < 'a' || line.text[at] > 'z') {
                return false;
            }
            int bit = 1 << (line.text[at] - 'a');
            at++;
            if (sign == '>') {
                one.after |= bit;
            } else {
                one.insteadOf |= bit;
            }
            return true;
        }

        private boolean take(char c) {
            if (at >= line.length || line.text[at] != c) {
                return false;
            }
            at++;
            return true;
        }

        private int takeNumber() {
            int first = takeDigit();
            if (first <= 0) {
                return first;
            }
            int second = takeDigit();
            return second == NONE ? first : 10 * first + second;
        }

        private int takeDigit() {
            if (at >= line.length || line.text[at] < '0' || line.text[at] > '9') {
                return NONE;
            }
            int digit = line.text[at] - '0';
            at++;
            return digit;
        }
    }

    /** One activity: what the plan says of it, how it goes, and what is said for its next start. */
    private static final class Activity {
        static final int WAITING = 0;
        static final int RUNNING = 1;
        static final int DONE = 2;
        static final int ABORTED = 3;
        static final int SKIPPED = 4;

        static final int LONGEST = 30;
        static final int MOST_RETRIES = 3;
        static final int NO_LATEST = 99;

        int shortest;
        int longest;
        int energy;
        int data;
        int heat;
        int latest;
        int retries;
        // One bit a name, a the lowest.
        int after;
        int insteadOf;
        int earliest;

        int state;
        int startedIn;
        int lasted;
        int retriesLeft;
        int starts;
        int due;
        int draw;

        int saidMinutes;
        int saidDraw;

        void clear() {
            shortest = 0;
            longest = 0;
            energy = 0;
            data = 0;
            heat = 0;
            latest = NO_LATEST;
            retries = 0;
            after = 0;
            insteadOf = 0;
            earliest = 0;
            saidMinutes = NONE;
            saidDraw = NONE;
        }

        /** Begins anew, but leaves what is said for the next start: only that start or another plan ends it. */
        void makeReady() {
            state = WAITING;
            startedIn = NONE;
            lasted = 0;
            retriesLeft = retries;
            starts = 0;
        }

        boolean isAfter(int i) {
            return (after >> i & 1) != 0;
        }

        boolean isInsteadOf(int i) {
            return (insteadOf >> i & 1) != 0;
        }

        boolean isRunning() {
            return state == RUNNING;
        }

        boolean isWaiting() {
            return state == WAITING;
        }

        boolean isDone() {
            return state == DONE;
        }

        boolean hasFailed() {
            return state == ABORTED || state == SKIPPED;
        }

        void start(int minute) {
            state = RUNNING;
            startedIn = minute;
            lasted = 0;
            starts++;
            due = saidMinutes == NONE ? longest : saidMinutes;
            draw = saidDraw == NONE ? energy : saidDraw;
            saidMinutes = NONE;
            saidDraw = NONE;
        }

        void growOlder() {
            lasted++;
            if (draw > energy || lasted >= longest && due > lasted) {
                stop();
            } else if (lasted >= due) {
                state = DONE;
            }
        }

        private void stop() {
            if (retriesLeft > 0) {
                retriesLeft--;
                state = WAITING;
            } else {
                state = ABORTED;
            }
        }
    }

    /** Up to eight activities; without any it is no plan. */
    private static final class Plan {
        static final int MOST = 8;

        final Activity[] members;
        int count;

        Plan() {
            members = new Activity[MOST];
            for (int i = 0; i < MOST; i++) {
                members[i] = new Activity();
            }
        }

        boolean has(int i) {
            return i >= 0 && i < count;
        }

        void makeReady() {
            for (int i = 0; i < count; i++) {
                members[i].makeReady();
            }
        }

        /** Answers 0, or 100 times what makes it unfit and the first activity of which that is so. */
        int findUnfit() {
            for (int i = 0; i < count; i++) {
                if (saysWrong(i)) {
                    return 100 + i;
                }
            }
            for (int i = 0; i < count; i++) {
                if (isInRing(i)) {
                    return 200 + i;
                }
            }
            reckonEarliest();
            for (int i = 0; i < count; i++) {
                if (members[i].earliest > members[i].latest) {
                    return 300 + i;
                }
            }
            return 0;
        }

        private boolean saysWrong(int i) {
            Activity one = members[i];
            // Its own name and the names behind the last one are wrong.
            int right = (1 << count) - 1 & ~(1 << i);
            return one.shortest < 1
                || one.longest > Activity.LONGEST
                || one.shortest > one.longest
                || one.retries > Activity.MOST_RETRIES
                || ((one.after | one.insteadOf) & ~right) != 0;
        }

        private boolean isInRing(int i) {
            int reached = members[i].after;
            // Each round reaches a name more or changes nothing, so as many rounds as names are enough.
            for (int round = 0; round < count; round++) {
                for (int j = 0; j < count; j++) {
                    if ((reached >> j & 1) != 0) {
                        reached |= members[j].after;
                    }
                }
            }
            return (reached >> i & 1) != 0;
        }

        private void reckonEarliest() {
            // Without a ring no chain is longer than the plan, so as many rounds as activities are enough.
            for (int round = 0; round < count; round++) {
                for (int i = 0; i < count; i++) {
                    members[i].earliest = earliestOf(members[i]);
                }
            }
        }

        private int earliestOf(Activity one) {
            int earliest = 0;
            for (int j = 0; j < count; j++) {
                if (one.isAfter(j)) {
                    earliest = Math.max(earliest, members[j].earliest + members[j].shortest);
                }
            }
            return earliest;
        }

        int runningDraw() {
            int draw = 0;
            for (int i = 0; i < count; i++) {
                if (members[i].isRunning()) {
                    draw += members[i].draw;
                }
            }
            return draw;
        }

        int runningData() {
            int data = 0;
            for (int i = 0; i < count; i++) {
                if (members[i].isRunning()) {
                    data += members[i].data;
                }
            }
            return data;
        }

        int runningHeat() {
            int heat = 0;
            for (int i = 0; i < count; i++) {
                if (members[i].isRunning()) {
                    heat += members[i].heat;
                }
            }
            return heat;
        }

        void growOlder() {
            for (int i = 0; i < count; i++) {
                if (members[i].isRunning()) {
                    members[i].growOlder();
                }
            }
        }

        void skipHopeless(int minutesSince) {
            // A round that changes something skips one, so as many rounds as activities are enough.
            for (int round = 0; round < count; round++) {
                for (int i = 0; i < count; i++) {
                    if (members[i].isWaiting() && isHopeless(members[i], minutesSince)) {
                        members[i].state = Activity.SKIPPED;
                    }
                }
            }
        }

        private boolean isHopeless(Activity one, int minutesSince) {
            if (minutesSince > one.latest) {
                return true;
            }
            for (int j = 0; j < count; j++) {
                if (one.isAfter(j) && members[j].hasFailed() || one.isInsteadOf(j) && members[j].isDone()) {
                    return true;
                }
            }
            return false;
        }

        /** Whether one is waiting and the others let it start. */
        boolean isReady(int i) {
            Activity one = members[i];
            if (!one.isWaiting()) {
                return false;
            }
            for (int j = 0; j < count; j++) {
                if (one.isAfter(j) && !members[j].isDone() || one.isInsteadOf(j) && !members[j].hasFailed()) {
                    return false;
                }
            }
            return true;
        }

        void giveUp() {
            for (int i = 0; i < count; i++) {
                if (members[i].isRunning()) {
                    members[i].state = Activity.ABORTED;
                } else if (members[i].isWaiting()) {
                    members[i].state = Activity.SKIPPED;
                }
            }
        }

        boolean isOver() {
            for (int i = 0; i < count; i++) {
                if (members[i].isRunning() || members[i].isWaiting()) {
                    return false;
                }
            }
            return true;
        }
    }

    /** The levels, what comes in, and what the way home needs. */
    private static final class Supply {
        static final int MOST_ENERGY = 1000;
        static final int MOST_STORE = 500;
        static final int PLACES = 24;

        int energy;
        int store;
        int trueGain;
        int homeMinutes;
        int homeDraw;
        private final int[] lowerGains;
        // Kept for each place of the curve, as every minute of every envelope asks for it.
        private final int[] needs;

        Supply() {
            energy = MOST_ENERGY;
            trueGain = NONE;
            lowerGains = new int[PLACES];
            needs = new int[PLACES];
            setWayHome(5, 20);
        }

        void setWayHome(int minutes, int draw) {
            homeMinutes = minutes;
            homeDraw = draw;
            reckonNeeds();
        }

        void setLowerGain(int place, int gain) {
            lowerGains[place] = gain;
            reckonNeeds();
        }

        private void reckonNeeds() {
            for (int place = 0; place < PLACES; place++) {
                needs[place] = needFrom(place);
            }
        }

        /** Goes the way home from its end: behind its last minute 0 is enough. */
        private int needFrom(int place) {
            int need = 0;
            for (int k = homeMinutes; k >= 1; k--) {
                need = Math.max(0, need + homeDraw - lowerGains[(place + k) % PLACES]);
                if (need > MOST_ENERGY) {
                    return NONE;
                }
            }
            return need;
        }

        int lowerGain(int minute) {
            return lowerGains[Math.floorMod(minute, PLACES)];
        }

        int needBehind(int minute) {
            return needs[Math.floorMod(minute, PLACES)];
        }

        boolean isOpen(int from, int minute) {
            int need = needBehind(minute);
            return need != NONE && from >= need;
        }

        static int goOn(int from, int gain, int draw) {
            return Math.min(MOST_ENERGY, from + gain - draw);
        }

        void pass(int minute, int draw) {
            int gain = trueGain == NONE ? lowerGain(minute) : trueGain;
            energy = Math.max(0, goOn(energy, gain, draw));
        }

        void keep(int data) {
            store = Math.min(MOST_STORE, store + data);
        }
    }

    /** The most that the running ones, and one more perhaps, may still ask for. */
    private static final class Envelope {
        static final int MOST_HEAT = 100;

        // What they draw in the k-th minute from now.
        private final int[] drawsAhead;
        private int length;
        private int heat;
        private int data;

        Envelope() {
            drawsAhead = new int[Activity.LONGEST + 1];
        }

        void gather(Plan plan, int extra) {
            clear();
            for (int i = 0; i < plan.count; i++) {
                Activity one = plan.members[i];
                if (one.isRunning()) {
                    add(one, one.longest - one.lasted);
                } else if (i == extra) {
                    add(one, one.longest);
                }
            }
        }

        private void clear() {
            length = 0;
            heat = 0;
            data = 0;
            for (int k = 0; k < drawsAhead.length; k++) {
                drawsAhead[k] = 0;
            }
        }

        private void add(Activity one, int minutesLeft) {
            heat += one.heat;
            data += one.data * minutesLeft;
            for (int k = 1; k <= minutesLeft && k < drawsAhead.length; k++) {
                drawsAhead[k] += one.energy;
                length = Math.max(length, k);
            }
        }

        boolean holds(Supply supply, int minute) {
            if (heat > MOST_HEAT || supply.store + data > Supply.MOST_STORE) {
                return false;
            }
            int ahead = supply.energy;
            boolean open = supply.isOpen(ahead, minute);
            for (int k = 1; k <= length && open; k++) {
                ahead = Supply.goOn(ahead, supply.lowerGain(minute + k), drawsAhead[k]);
                // What the way home needs is never below 0, so a level below 0 is not open either.
                open = supply.isOpen(ahead, minute + k);
            }
            return open;
        }

        int deepest(Supply supply, int minute) {
            int ahead = supply.energy;
            int deepest = ahead;
            for (int k = 1; k <= length; k++) {
                ahead = Supply.goOn(ahead, supply.lowerGain(minute + k), drawsAhead[k]);
                deepest = Math.min(deepest, ahead);
            }
            return Math.max(0, deepest);
        }
    }
}
