/**
 * A tuner for a heater: it lets the heater swing by a relay, reads the swings, discards odd ones,
 * proposes settings of a controller by rules, and tries them; trials can be taken back.
 *
 * Every State is made with its object and used again, so that no call makes an object but the
 * exception that it throws.
 */
public final class RelayTuner {
    /** There is no such result. */
    public static final int NONE = -99999;

    private static final int OFF = 0;
    private static final int RELAY = 1;
    private static final int CONTROL = 2;

    private static final int RULES = 4;
    private static final int SLOTS = 2;
    private static final int MOST_TICKS = 200;
    private static final int MOST_ROUNDS = 60;
    private static final int MOST_COMMANDS = 3;
    private static final int MOST_WIDTH = 99;
    private static final int MOST_TENTHS = 500;
    private static final int MOST_SETTING = 9999;
    private static final int MOST_TOLERANCE = 99;
    private static final int COLDEST = -9999;
    private static final int HOTTEST = 9999;

    private final Text text = new Text();
    private final State fresh = new State();
    private final State present = new State();
    private final State copy = new State();
    private final History history = new History();
    private final Slots slots = new Slots();

    public RelayTuner() {
    }

    // ---- text

    public int append(int c) throws IllegalArgumentException, IllegalStateException {
        if (c < 0 || c > 255) {
            throw new IllegalArgumentException("no such character code");
        }
        if (text.isFull()) {
            throw new IllegalStateException("the text is full");
        }
        text.add((char) c);
        return text.length;
    }

    public int clearText() {
        int before = text.length;
        text.length = 0;
        return before;
    }

    public int errorPosition() {
        return text.read();
    }

    public int load() throws IllegalStateException {
        if (text.read() != NONE) {
            throw new IllegalStateException("the text has an error");
        }
        present.become(fresh);
        text.putInto(present);
        history.forget();
        slots.empty();
        return present.plant.temperature;
    }

    // ---- what there is

    public int about(int what) throws IllegalArgumentException {
        if (what < 0 || what > 19) {
            throw new IllegalArgumentException("no such number");
        }
        return present.number(what);
    }

    public int swing(int j, int what) throws IndexOutOfBoundsException, IllegalArgumentException {
        if (!present.swings.has(j)) {
            throw new IndexOutOfBoundsException("no such swing");
        }
        if (what < 0 || what > 4) {
            throw new IllegalArgumentException("no such number of a swing");
        }
        if (what == 3) {
            return present.swings.reason(j, present.control.tolerance);
        }
        return present.swings.number(j, what);
    }

    public int account(int what) throws IllegalArgumentException {
        if (what < 0 || what > 6) {
            throw new IllegalArgumentException("no such account");
        }
        return present.accounts.number(what);
    }

    // ---- actions

    public int tick(int m) throws IllegalArgumentException {
        if (!isTicks(m)) {
            throw new IllegalArgumentException("no such number of ticks");
        }
        history.remember(present);
        present.pass(m);
        return present.plant.temperature;
    }

    public int mode(int v) throws IllegalArgumentException {
        if (!isMode(v)) {
            throw new IllegalArgumentException("no such mode");
        }
        history.remember(present);
        int before = present.control.mode;
        present.changeMode(v);
        return before;
    }

    public int set(int what, int v) throws IllegalArgumentException {
        if (!isSetting(what, v)) {
            throw new IllegalArgumentException("no such number, or out of its range");
        }
        history.remember(present);
        int before = present.control.number(what);
        present.put(what, v);
        return before;
    }

    public int disturb(int tenths) throws IllegalArgumentException {
        if (!isDisturbance(tenths)) {
            throw new IllegalArgumentException("no such disturbance");
        }
        history.remember(present);
        present.push(tenths);
        return present.plant.temperature;
    }

    public int discard(int j) throws IndexOutOfBoundsException {
        if (!present.swings.has(j)) {
            throw new IndexOutOfBoundsException("no such swing");
        }
        history.remember(present);
        int period = present.swings.number(j, 0);
        present.swings.drop(j);
        return period;
    }

    public int tryRule(int rule) throws IndexOutOfBoundsException, IllegalStateException {
        if (!isRule(rule)) {
            throw new IndexOutOfBoundsException("no such rule");
        }
        if (!present.canBeginTrial()) {
            throw new IllegalStateException("no good swing, or too many open trials");
        }
        history.remember(present);
        present.beginTrial(rule);
        return present.control.p;
    }

    public int takeBack() throws IllegalStateException {
        if (present.trials.count == 0) {
            throw new IllegalStateException("no trial is open");
        }
        history.remember(present);
        present.endTrial();
        return present.trials.count;
    }

    public int accept() {
        history.remember(present);
        int open = present.trials.count;
        present.trials.count = 0;
        return open;
    }

    public int undo() throws IllegalStateException {
        if (history.count == 0) {
            throw new IllegalStateException("no state is remembered");
        }
        history.bringBack(present);
        return history.count;
    }

    // ---- swings and rules

    public int middle(boolean span) {
        return present.swings.middleOf(span);
    }

    public int proposal(int rule, int what) throws IndexOutOfBoundsException, IllegalArgumentException {
        if (!isRule(rule)) {
            throw new IndexOutOfBoundsException("no such rule");
        }
        if (what < 0 || what > 2) {
            throw new IllegalArgumentException("no such setting");
        }
        return present.proposed(rule, what);
    }

    public int toleranceFor(int n) throws IllegalArgumentException {
        if (n < 1 || n > Swings.MOST) {
            throw new IllegalArgumentException("no such number of swings");
        }
        return present.swings.leastTolerance(n);
    }

    // ---- forecasts

    public int ahead(int m, int what) throws IllegalArgumentException {
        if (m < 0 || m > MOST_TICKS || !isForecast(what)) {
            throw new IllegalArgumentException("no such number of ticks or of a forecast");
        }
        copy.become(present);
        return forecast(m, what);
    }

    public int outcome(int rule, int m, int what) throws IndexOutOfBoundsException, IllegalArgumentException {
        if (!isRule(rule)) {
            throw new IndexOutOfBoundsException("no such rule");
        }
        if (!isTicks(m) || !isForecast(what)) {
            throw new IllegalArgumentException("no such number of ticks or of a forecast");
        }
        return outcomeOf(rule, m, what);
    }

    public int bestRule(int m) throws IllegalArgumentException {
        if (!isTicks(m)) {
            throw new IllegalArgumentException("no such number of ticks");
        }
        if (present.goodCount() == 0) {
            return NONE;
        }
        int best = 0;
        int least = outcomeOf(0, m, 4);
        for (int rule = 1; rule < RULES; rule++) {
            int distance = outcomeOf(rule, m, 4);
            if (distance < least) {
                best = rule;
                least = distance;
            }
        }
        return best;
    }

    public int settlesAfter(int width) throws IllegalArgumentException {
        if (width < 0 || width > MOST_WIDTH) {
            throw new IllegalArgumentException("no such width");
        }
        copy.become(present);
        int settled = copy.distance() <= width ? 0 : NONE;
        for (int k = 1; k <= MOST_TICKS; k++) {
            copy.passOne();
            if (copy.distance() > width) {
                settled = NONE;
            } else if (settled == NONE) {
                settled = k;
            }
        }
        return settled;
    }

    // ---- scripts, simulations

    public int runScript(int n, long script) throws IllegalArgumentException {
        if (n < 1 || n > MOST_COMMANDS) {
            throw new IllegalArgumentException("no such number of commands");
        }
        if (script < 0 || Script.behind(script, n) > 0) {
            throw new IllegalArgumentException("negative, or too many digits");
        }
        copy.become(present);
        for (int i = 0; i < n; i++) {
            int group = (int) (Script.behind(script, n - 1 - i) % Script.GROUP);
            if (!Script.succeeds(copy, group)) {
                return i;
            }
        }
        return NONE;
    }

    public int simulate(long seed, int m) throws IllegalArgumentException {
        if (m < 1 || m > MOST_ROUNDS) {
            throw new IllegalArgumentException("no such number of rounds");
        }
        copy.become(present);
        long x = seed;
        for (int round = 0; round < m; round++) {
            x = x * 6364136223846793005L + 1442695040888963407L;
            int r = (int) (x >>> 33);
            if (r % 8 == 0) {
                copy.push(r / 8 % 81 - 40);
            }
            copy.pass(3);
        }
        return 100000 * copy.goodCount() + copy.plant.temperature;
    }

    // ---- save slots

    public int save(int slot) throws IndexOutOfBoundsException {
        if (!isSlot(slot)) {
            throw new IndexOutOfBoundsException("no such save slot");
        }
        slots.keep(slot, present);
        return present.clock;
    }

    public int restore(int slot) throws IndexOutOfBoundsException, IllegalStateException {
        if (!isSlot(slot)) {
            throw new IndexOutOfBoundsException("no such save slot");
        }
        if (!slots.isFilled(slot)) {
            throw new IllegalStateException("nothing has been saved there");
        }
        slots.giveTo(slot, present);
        history.forget();
        return present.clock;
    }

    // ---- what the arguments may be

    private static boolean isTicks(int m) {
        return m >= 1 && m <= MOST_TICKS;
    }

    private static boolean isMode(int v) {
        return v >= OFF && v <= CONTROL;
    }

    private static boolean isSetting(int what, int v) {
        return what >= 5 && what <= 10 && v >= 0 && v <= Control.most(what);
    }

    private static boolean isDisturbance(int tenths) {
        return tenths >= -MOST_TENTHS && tenths <= MOST_TENTHS;
    }

    private static boolean isRule(int rule) {
        return rule >= 0 && rule < RULES;
    }

    private static boolean isForecast(int what) {
        return what >= 0 && what <= 4;
    }

    private static boolean isSlot(int slot) {
        return slot >= 0 && slot < SLOTS;
    }

    // ---- forecasts on the copy

    private int outcomeOf(int rule, int m, int what) {
        if (present.goodCount() == 0) {
            return NONE;
        }
        copy.become(present);
        copy.follow(rule);
        return forecast(m, what);
    }

    private int forecast(int m, int what) {
        int outputs = 0;
        int greatest = NONE;
        int distances = 0;
        for (int i = 0; i < m; i++) {
            copy.passOne();
            outputs += copy.accounts.output;
            greatest = Math.max(greatest, copy.plant.temperature);
            distances += copy.distance();
        }
        switch (what) {
            case 0:
                return copy.plant.temperature;
            case 1:
                return outputs;
            case 2:
                return greatest;
            case 3:
                return copy.swings.count;
            default:
                return distances;
        }
    }

    /** The text buffer, and what the text tells when it is read. */
    private static final class Text {
        private static final int MOST = 60;
        private static final int FAULT = -1;
        private static final int MOST_PARTS = 4;

        private final char[] signs = new char[MOST];
        private int length;

        private int at;
        private int gain;
        private int inertia;
        private int delay;
        private int fullPower;
        // These are FAULT as long as the text has no such part.
        private int setPoint;
        private int band;
        private int tolerance;
        private boolean hasAmbient;
        private int ambient;

        boolean isFull() {
            return length >= MOST;
        }

        void add(char c) {
            if (length >= 0 && length < signs.length) {
                signs[length] = c;
                length++;
            }
        }

        /** Reads the text, and answers its error position, or NONE. */
        int read() {
            at = 0;
            setPoint = FAULT;
            band = FAULT;
            tolerance = FAULT;
            hasAmbient = false;
            if (!readPlant()) {
                return at;
            }
            for (int part = 0; part < MOST_PARTS && at < length; part++) {
                if (!readPart()) {
                    return at;
                }
            }
            return at < length ? at : NONE;
        }

        void putInto(State state) {
            state.plant.gain = gain;
            state.plant.inertia = inertia;
            state.plant.delay = delay;
            state.plant.fullPower = fullPower;
            if (hasAmbient) {
                state.plant.ambient = ambient;
            }
            state.plant.temperature = state.plant.ambient;
            if (setPoint != FAULT) {
                state.control.setPoint = setPoint;
            }
            if (band != FAULT) {
                state.control.band = band;
            }
            if (tolerance != FAULT) {
                state.control.tolerance = tolerance;
            }
        }

        private boolean readPlant() {
            gain = labelled('G', 2, 1, 20);
            if (gain == FAULT) {
                return false;
            }
            inertia = labelled('N', 2, 1, 50);
            if (inertia == FAULT) {
                return false;
            }
            delay = labelled('L', 1, 0, 9);
            if (delay == FAULT) {
                return false;
            }
            fullPower = labelled('H', 2, 1, 99);
            return fullPower != FAULT;
        }

        private boolean readPart() {
            if (isHere('A') && !hasAmbient) {
                return readAmbient();
            }
            if (isHere('S') && setPoint == FAULT) {
                setPoint = labelled('S', 3, 0, 999);
                return setPoint != FAULT;
            }
            if (isHere('B') && band == FAULT) {
                band = labelled('B', 2, 0, 20);
                return band != FAULT;
            }
            if (isHere('T') && tolerance == FAULT) {
                tolerance = labelled('T', 2, 0, 99);
                return tolerance != FAULT;
            }
            return false;
        }

        private boolean readAmbient() {
            at++;
            boolean minus = isHere('-');
            if (!minus && !isHere('+')) {
                return false;
            }
            at++;
            int size = number(2, 0, 99);
            ambient = minus ? -size : size;
            hasAmbient = size != FAULT;
            return hasAmbient;
        }

        private int labelled(char letter, int digits, int least, int most) {
            if (!isHere(letter)) {
                return FAULT;
            }
            at++;
            return number(digits, least, most);
        }

        /** Reads a number of so many digits; stops before the first digit that leaves none in the range. */
        private int number(int digits, int least, int most) {
            int unit = 1;
            for (int i = 1; i < digits; i++) {
                unit *= 10;
            }
            int value = 0;
            for (int i = 0; i < digits; i++) {
                int digit = digitHere();
                int smallest = value + digit * unit;
                if (digit == FAULT || smallest > most || smallest + unit - 1 < least) {
                    return FAULT;
                }
                value = smallest;
                unit /= 10;
                at++;
            }
            return value;
        }

        private boolean isHere(char c) {
            return at >= 0 && at < length && at < signs.length && signs[at] == c;
        }

        private int digitHere() {
            if (at < 0 || at >= length || at >= signs.length) {
                return FAULT;
            }
            char c = signs[at];
            return c >= '0' && c <= '9' ? c - '0' : FAULT;
        }
    }

    /** The heater: what it is made of, its temperature, and the outputs that are still on their way. */
    private static final class Plant {
        private static final int PIPE = 10;

        private int gain = 10;
        private int inertia = 8;
        private int delay = 2;
        private int ambient = 20;
        private int fullPower = 20;
        private int temperature = 20;
        private final int[] pipe = new int[PIPE];
        private int newest;

        void become(Plant other) {
            gain = other.gain;
            inertia = other.inertia;
            delay = other.delay;
            ambient = other.ambient;
            fullPower = other.fullPower;
            temperature = other.temperature;
            System.arraycopy(other.pipe, 0, pipe, 0, PIPE);
            newest = other.newest;
        }

        void work(int output) {
            newest = newest >= 0 && newest + 1 < PIPE ? newest + 1 : 0;
            pipe[newest] = output;
            int rest = ambient + gain * power();
            int change = inertia > 0 ? (rest - temperature) / inertia : 0;
            if (change == 0) {
                change = Integer.compare(rest, temperature);
            }
            warmBy(change);
        }

        void warmBy(int change) {
            temperature = within(temperature + change, COLDEST, HOTTEST);
        }

        private int power() {
            int place = newest - delay;
            if (place < 0) {
                place += PIPE;
            }
            return place >= 0 && place < PIPE ? pipe[place] : 0;
        }
    }

    /** The controller: its numbers, its mode, and what the relay and the control go on from. */
    private static final class Control {
        private static final int MOST_SUM = 9999;

        private int setPoint = 100;
        private int band = 3;
        private int tolerance = 20;
        private int p = 50;
        private int i;
        private int d;
        private int mode;
        private boolean relayOn;
        private int sum;
        private int lastError;
        private boolean hasLastError;

        void become(Control other) {
            setPoint = other.setPoint;
            band = other.band;
            tolerance = other.tolerance;
            p = other.p;
            i = other.i;
            d = other.d;
            mode = other.mode;
            relayOn = other.relayOn;
            sum = other.sum;
            lastError = other.lastError;
            hasLastError = other.hasLastError;
        }

        static int most(int what) {
            switch (what) {
                case 5:
                    return 999;
                case 6:
                    return 20;
                case 7:
                    return MOST_TOLERANCE;
                default:
                    return MOST_SETTING;
            }
        }

        int number(int what) {
            switch (what) {
                case 5:
                    return setPoint;
                case 6:
                    return band;
                case 7:
                    return tolerance;
                case 8:
                    return p;
                case 9:
                    return i;
                default:
                    return d;
            }
        }

        void put(int what, int v) {
            switch (what) {
                case 5:
                    setPoint = v;
                    break;
                case 6:
                    band = v;
                    break;
                case 7:
                    tolerance = v;
                    break;
                case 8:
                    p = v;
                    break;
                case 9:
                    i = v;
                    break;
                default:
                    d = v;
                    break;
            }
        }

        void enter(int newMode) {
            mode = newMode;
            relayOn = newMode == RELAY;
            if (newMode == CONTROL) {
                sum = 0;
                hasLastError = false;
            }
        }

        int outputAt(int temperature, int fullPower) {
            switch (mode) {
                case RELAY:
                    return relayAt(temperature) ? fullPower : 0;
                case CONTROL:
                    return controlAt(temperature, fullPower);
                default:
                    return 0;
            }
        }

        private boolean relayAt(int temperature) {
            if (temperature >= setPoint + band) {
                relayOn = false;
            } else if (temperature <= setPoint - band) {
                relayOn = true;
            }
            return relayOn;
        }

        private int controlAt(int temperature, int fullPower) {
            int error = setPoint - temperature;
            int rise = hasLastError ? error - lastError : 0;
            int wanted = (p * error + i * sum + d * rise) / 100;
            int output = within(wanted, 0, fullPower);
            if (output == wanted) {
                sum = within(sum + error, -MOST_SUM, MOST_SUM);
            }
            lastError = error;
            hasLastError = true;
            return output;
        }
    }

    /** The swings that are kept, from the oldest one on, and the one that is going on. */
    private static final class Swings {
        private static final int MOST = 20;

        private int count;
        private final int[] periods = new int[MOST];
        private final int[] highs = new int[MOST];
        private final int[] lows = new int[MOST];
        private final int[] ends = new int[MOST];
        private final int[] ordered = new int[MOST];

        private boolean goingOn;
        private int begin;
        private int high;
        private int low;

        void become(Swings other) {
            count = other.count;
            System.arraycopy(other.periods, 0, periods, 0, MOST);
            System.arraycopy(other.highs, 0, highs, 0, MOST);
            System.arraycopy(other.lows, 0, lows, 0, MOST);
            System.arraycopy(other.ends, 0, ends, 0, MOST);
            goingOn = other.goingOn;
            begin = other.begin;
            high = other.high;
            low = other.low;
        }

        boolean has(int j) {
            return j >= 0 && j < count && j < MOST;
        }

        int number(int j, int what) {
            if (!has(j)) {
                return NONE;
            }
            switch (what) {
                case 0:
                    return periods[j];
                case 1:
                    return highs[j];
                case 2:
                    return lows[j];
                default:
                    return ends[j];
            }
        }

        void breakOff() {
            goingOn = false;
        }

        /** Looks at a tick of the mode 1; answers if it is a crossing. */
        boolean watch(int before, int after, int setPoint, int clock) {
            // The tick of a crossing still belongs to the swing that it ends, so it is seen before the next one begins.
            high = Math.max(high, after);
            low = Math.min(low, after);
            if (before >= setPoint || after < setPoint) {
                return false;
            }
            if (goingOn) {
                add(clock);
            }
            goingOn = true;
            begin = clock;
            high = COLDEST;
            low = HOTTEST;
            return true;
        }

        private void add(int clock) {
            if (count >= MOST) {
                drop(0);
            }
            if (count >= 0 && count < MOST) {
                periods[count] = clock - begin;
                highs[count] = high;
                lows[count] = low;
                ends[count] = clock;
                count++;
            }
        }

        void drop(int j) {
            if (j < 0 || j >= count) {
                return;
            }
            for (int k = j + 1; k < count && k < MOST; k++) {
                periods[k - 1] = periods[k];
                highs[k - 1] = highs[k];
                lows[k - 1] = lows[k];
                ends[k - 1] = ends[k];
            }
            count--;
        }

        /** The middle period or span of all swings but number 0; NONE if there is no other one. */
        int middleOf(boolean span) {
            int size = 0;
            for (int j = 1; j < count && j < MOST; j++) {
                int number = span ? highs[j] - lows[j] : periods[j];
                int place = size;
                while (place > 0 && ordered[place - 1] > number) {
                    ordered[place] = ordered[place - 1];
                    place--;
                }
                ordered[place] = number;
                size++;
            }
            return size > 0 ? ordered[(size - 1) / 2] : NONE;
        }

        int reason(int j, int tolerance) {
            return reasonBeside(j, tolerance, middleOf(false), middleOf(true));
        }

        int goodCount(int tolerance) {
            return goodBeside(tolerance, middleOf(false), middleOf(true));
        }

        int leastTolerance(int n) {
            int middlePeriod = middleOf(false);
            int middleSpan = middleOf(true);
            for (int tolerance = 0; tolerance <= MOST_TOLERANCE; tolerance++) {
                if (goodBeside(tolerance, middlePeriod, middleSpan) >= n) {
                    return tolerance;
                }
            }
            return NONE;
        }

        /** The average period or span of the good swings, rounded down, but at least 1; NONE if none is good. */
        int average(boolean span, int tolerance) {
            int middlePeriod = middleOf(false);
            int middleSpan = middleOf(true);
            int good = 0;
            int sum = 0;
            for (int j = 0; j < count && j < MOST; j++) {
                if (reasonBeside(j, tolerance, middlePeriod, middleSpan) == 0) {
                    good++;
                    sum += span ? highs[j] - lows[j] : periods[j];
                }
            }
            return good > 0 ? Math.max(1, sum / good) : NONE;
        }

        private int goodBeside(int tolerance, int middlePeriod, int middleSpan) {
            int good = 0;
            for (int j = 0; j < count; j++) {
                if (reasonBeside(j, tolerance, middlePeriod, middleSpan) == 0) {
                    good++;
                }
            }
            return good;
        }

        private int reasonBeside(int j, int tolerance, int middlePeriod, int middleSpan) {
            if (j < 1 || j >= MOST) {
                return 1;
            }
            if (Math.abs(periods[j] - middlePeriod) * 100 > tolerance * middlePeriod) {
                return 2;
            }
            int span = highs[j] - lows[j];
            return Math.abs(span - middleSpan) * 100 > tolerance * middleSpan ? 3 : 0;
        }
    }

    /** The open trials: the settings and the mode that each of them put aside, the latest one last. */
    private static final class Trials {
        private static final int MOST = 8;
        private static final int EACH = 4;

        private int count;
        private final int[] putAside = new int[MOST * EACH];

        void become(Trials other) {
            count = other.count;
            System.arraycopy(other.putAside, 0, putAside, 0, MOST * EACH);
        }

        void open(Control control) {
            if (count >= 0 && count < MOST) {
                int from = count * EACH;
                putAside[from] = control.p;
                putAside[from + 1] = control.i;
                putAside[from + 2] = control.d;
                putAside[from + 3] = control.mode;
                count++;
            }
        }

        /** Closes the latest trial: puts its settings back, and answers the mode that was put aside with them. */
        int close(Control control) {
            if (count < 1 || count > MOST) {
                return control.mode;
            }
            count--;
            int from = count * EACH;
            control.p = putAside[from];
            control.i = putAside[from + 1];
            control.d = putAside[from + 2];
            return putAside[from + 3];
        }
    }

    /** The accounts since the object was made or loaded. */
    private static final class Accounts {
        private static final int MODES = 3;

        private final int[] ticks = new int[MODES];
        private int output;
        private int outputs;
        private int outputChanges;
        private int crossings;
        private int disturbances;

        void become(Accounts other) {
            System.arraycopy(other.ticks, 0, ticks, 0, MODES);
            output = other.output;
            outputs = other.outputs;
            outputChanges = other.outputChanges;
            crossings = other.crossings;
            disturbances = other.disturbances;
        }

        void addTick(int mode, int newOutput) {
            if (mode >= 0 && mode < MODES) {
                ticks[mode]++;
            }
            outputs += newOutput;
            if (newOutput != output) {
                outputChanges++;
            }
            output = newOutput;
        }

        int number(int what) {
            switch (what) {
                case 0:
                case 1:
                case 2:
                    return ticks[what];
                case 3:
                    return outputs;
                case 4:
                    return outputChanges;
                case 5:
                    return crossings;
                default:
                    return disturbances;
            }
        }
    }

    /**
     * Everything but the text, the remembered states and the save slots. What it can't do, it answers
     * with false and leaves everything as it is: so a script's command fails where a call would throw.
     */
    private static final class State {
        private int clock;
        private final Plant plant = new Plant();
        private final Control control = new Control();
        private final Swings swings = new Swings();
        private final Trials trials = new Trials();
        private final Accounts accounts = new Accounts();

        void become(State other) {
            clock = other.clock;
            plant.become(other.plant);
            control.become(other.control);
            swings.become(other.swings);
            trials.become(other.trials);
            accounts.become(other.accounts);
        }

        int number(int what) {
            switch (what) {
                case 0:
                    return plant.gain;
                case 1:
                    return plant.inertia;
                case 2:
                    return plant.delay;
                case 3:
                    return plant.ambient;
                case 4:
                    return plant.fullPower;
                case 5:
                case 6:
                case 7:
                case 8:
                case 9:
                case 10:
                    return control.number(what);
                case 11:
                    return control.mode;
                case 12:
                    return plant.temperature;
                case 13:
                    return clock;
                case 14:
                    return control.relayOn ? 1 : 0;
                case 15:
                    return control.sum;
                case 16:
                    return swings.count;
                case 17:
                    return goodCount();
                case 18:
                    return trials.count;
                default:
                    return accounts.output;
            }
        }

        boolean pass(int m) {
            if (!isTicks(m)) {
                return false;
            }
            for (int k = 0; k < m; k++) {
                passOne();
            }
            return true;
        }

        void passOne() {
            int before = plant.temperature;
            int output = control.outputAt(before, plant.fullPower);
            plant.work(output);
            clock++;
            accounts.addTick(control.mode, output);
            if (control.mode == RELAY && swings.watch(before, plant.temperature, control.setPoint, clock)) {
                accounts.crossings++;
            }
        }

        boolean changeMode(int v) {
            if (!isMode(v)) {
                return false;
            }
            if (v != control.mode) {
                control.enter(v);
                swings.breakOff();
            }
            return true;
        }

        boolean put(int what, int v) {
            if (!isSetting(what, v)) {
                return false;
            }
            control.put(what, v);
            return true;
        }

        boolean push(int tenths) {
            if (!isDisturbance(tenths)) {
                return false;
            }
            plant.warmBy(tenths);
            accounts.disturbances++;
            return true;
        }

        /** How far the temperature is from the set point. */
        int distance() {
            return Math.abs(control.setPoint - plant.temperature);
        }

        int goodCount() {
            return swings.goodCount(control.tolerance);
        }

        boolean canBeginTrial() {
            return trials.count < Trials.MOST && swings.goodCount(control.tolerance) > 0;
        }

        boolean beginTrial(int rule) {
            if (!isRule(rule) || !canBeginTrial()) {
                return false;
            }
            trials.open(control);
            follow(rule);
            return true;
        }

        boolean endTrial() {
            if (trials.count == 0) {
                return false;
            }
            changeMode(trials.close(control));
            return true;
        }

        /** Puts what a rule proposes, and the mode of control, into place. */
        void follow(int rule) {
            int p = proposed(rule, 0);
            int i = proposed(rule, 1);
            int d = proposed(rule, 2);
            control.p = p;
            control.i = i;
            control.d = d;
            changeMode(CONTROL);
        }

        /** P, I or D of a rule; NONE if there is no good swing. */
        int proposed(int rule, int what) {
            int span = swings.average(true, control.tolerance);
            int period = swings.average(false, control.tolerance);
            if (span < 1 || period < 1) {
                return NONE;
            }
            int p = Rule.proportional(rule, 127 * plant.fullPower / span);
            switch (what) {
                case 0:
                    return p;
                case 1:
                    return Rule.integral(rule, p, period);
                default:
                    return Rule.derivative(rule, p, period);
            }
        }
    }

    /** What the rules propose, from K or P and the average period of the good swings. */
    private static final class Rule {
        static int proportional(int rule, int k) {
            switch (rule) {
                case 0:
                    return atMost(k / 2);
                case 1:
                    return atMost(k * 45 / 100);
                case 2:
                    return atMost(k * 6 / 10);
                default:
                    return atMost(k * 2 / 10);
            }
        }

        static int integral(int rule, int p, int period) {
            if (rule == 0 || period < 1) {
                return 0;
            }
            return rule == 1 ? atMost(p * 12 / (10 * period)) : atMost(p * 2 / period);
        }

        static int derivative(int rule, int p, int period) {
            switch (rule) {
                case 2:
                    return atMost(p * period / 8);
                case 3:
                    return atMost(p * period / 3);
                default:
                    return 0;
            }
        }

        private static int atMost(int setting) {
            return setting > MOST_SETTING ? MOST_SETTING : setting;
        }
    }

    /** The commands of a script, groups of five digits. */
    private static final class Script {
        private static final int GROUP = 100000;

        /** What is left of a script without its last groups. */
        static long behind(long script, int groups) {
            long left = script;
            for (int k = 0; k < groups; k++) {
                left /= GROUP;
            }
            return left;
        }

        static boolean succeeds(State state, int group) {
            int command = group / 10000;
            int number = group % 10000;
            switch (command) {
                case 1:
                    return state.pass(number);
                case 2:
                    return state.changeMode(number);
                case 3:
                    return hasSign(number) && state.push(signed(number));
                case 4:
                    return state.put(number / 1000, number % 1000);
                case 5:
                    return state.beginTrial(number);
                case 6:
                    return number == 0 && state.endTrial();
                case 7:
                    return hasSign(number) && state.plant.temperature >= signed(number);
                case 8:
                    return number <= 99 && state.goodCount() >= number;
                case 9:
                    return number <= 9 && state.trials.count == number;
                default:
                    return false;
            }
        }

        private static boolean hasSign(int number) {
            return number / 1000 <= 1;
        }

        private static int signed(int number) {
            int size = number % 1000;
            return number / 1000 == 1 ? -size : size;
        }
    }

    /** The states before the latest actions, the latest one last. */
    private static final class History {
        private static final int MOST = 14;

        private final State[] kept = new State[MOST];
        private int count;

        History() {
            for (int k = 0; k < MOST; k++) {
                kept[k] = new State();
            }
        }

        void remember(State state) {
            if (count >= MOST) {
                forgetOldest();
            }
            if (count >= 0 && count < MOST) {
                kept[count].become(state);
                count++;
            }
        }

        void bringBack(State state) {
            if (count > 0 && count <= MOST) {
                count--;
                state.become(kept[count]);
            }
        }

        void forget() {
            count = 0;
        }

        // The oldest state's object goes to the end, where the next one is written over it.
        private void forgetOldest() {
            State oldest = kept[0];
            for (int k = 1; k < MOST; k++) {
                kept[k - 1] = kept[k];
            }
            kept[MOST - 1] = oldest;
            count = MOST - 1;
        }
    }

    /** The save slots. */
    private static final class Slots {
        private final State[] saved = new State[SLOTS];
        private final boolean[] filled = new boolean[SLOTS];

        Slots() {
            for (int k = 0; k < SLOTS; k++) {
                saved[k] = new State();
            }
        }

        boolean isFilled(int slot) {
            return isSlot(slot) && filled[slot];
        }

        void keep(int slot, State state) {
            if (isSlot(slot)) {
                saved[slot].become(state);
                filled[slot] = true;
            }
        }

        void giveTo(int slot, State state) {
            if (isFilled(slot)) {
                state.become(saved[slot]);
            }
        }

        void empty() {
            for (int k = 0; k < SLOTS; k++) {
                filled[k] = false;
            }
        }
    }

    private static int within(int number, int least, int most) {
        if (number < least) {
            return least;
        }
        return number > most ? most : number;
    }
}
