/** The build of an exhibition hall; ../shared/DOC.md says what each call promises. */
public final class HallBuilds {
    public static final int NO_SUCH = -1, BAD_VALUE = -2, BAD_TEXT = -3, TOO_MANY = -4, NOT_POSSIBLE = -5, NONE = -6;
    public static final int DOCK = 0, UNLOAD = 1, PHASE = 2;

    private static final int[] FIRST_SETTINGS = {20, 2, 60};
    private static final int[] MOST_OF_SETTINGS = {60, 9, 999};
    private static final int PHASES = 3;

    private static final int MOST_STANDS = 20;
    private static final int MOST_WORK = 99;
    private static final int MOST_LENGTH = 20;
    private static final int MOST_POWER = 99;
    private static final int MOST_CREWS = 6;
    private static final int MOST_SPEED = 9;
    private static final int MOST_RATE = 99;
    private static final int MOST_HOURS_AT_ONCE = 99;
    private static final int MOST_HOURS = 9999;
    private static final int MOST_TRIAL_HOURS = 1000;
    private static final int MOST_DOCK = 60;
    private static final int MOST_CHARACTERS = 80;
    private static final int MOST_UNDO = 6;
    private static final int SLOTS = 2;
    private static final int LOSS_EVERY = 4;

    private static final int TOLD = 0, AT_DOCK = 1, READY = 2, BUILDING = 3, BUILT = 4, DISMANTLING = 5, GONE = 6;

    private static final int FOR_NOTHING = 0, FOR_DOCK = 1, FOR_UNLOADING = 2, FOR_BASE = 3, FOR_CREW = 4,
            FOR_STANDS_ON_IT = 5;

    private final Hall hall;
    // What-ifs are played here, so that they leave the hall itself alone.
    private final Hall trial;
    private final History history;
    private final Slots slots;
    private final OrderReader reader;
    private final Pad pad;

    public HallBuilds() {
        hall = new Hall();
        trial = new Hall();
        history = new History();
        slots = new Slots();
        reader = new OrderReader();
        pad = reader.pad;
    }

    // ---- changes

    public int set(int setting, int value) {
        history.prepare(hall);
        return history.settle(hall.changeSetting(setting, value));
    }

    public int stand(int hours, int length, int power, int base) {
        history.prepare(hall);
        return history.settle(hall.addStand(hours, length, power, base));
    }

    public int crew(int speed, int rate) {
        history.prepare(hall);
        return history.settle(hall.addCrew(speed, rate));
    }

    public int end() {
        history.prepare(hall);
        return history.settle(hall.endFair());
    }

    public int find() {
        history.prepare(hall);
        return history.settle(hall.findLost());
    }

    public int pass(int hours) {
        history.prepare(hall);
        return history.settle(hall.passHours(hours));
    }

    // ---- what there is

    public int ofStand(int stand, int what) {
        return hall.stands.tell(stand, what);
    }

    public int ofCrew(int crew, int what) {
        return hall.crews.tell(crew, what);
    }

    public int load(int phase) {
        return hall.loadOf(phase);
    }

    public int count(int what) {
        switch (what) {
            case 18: return pad.length;
            case 19: return history.kept;
            default: return hall.number(what);
        }
    }

    public int waitsFor(int stand) {
        return hall.reasonToWait(stand);
    }

    // ---- what if

    public int allIn() {
        trial.copyFrom(hall);
        return trial.hoursUntilAllIn(MOST_TRIAL_HOURS);
    }

    public int withCrew(int speed) {
        trial.copyFrom(hall);
        int answer = trial.addCrew(speed, 0);
        return answer < 0 ? answer : trial.hoursUntilAllIn(MOST_TRIAL_HOURS);
    }

    public int leastDock() {
        int hours = hoursWithDock(MOST_DOCK, MOST_TRIAL_HOURS);
        if (hours == NONE) return NONE;
        // A longer dock can also take longer (another order of work), so no dock is passed over.
        for (int dock = 1; dock < MOST_DOCK; dock++) {
            if (hoursWithDock(dock, hours) != NONE) return dock;
        }
        return MOST_DOCK;
    }

    private int hoursWithDock(int dock, int most) {
        trial.copyFrom(hall);
        trial.changeSetting(DOCK, dock);
        return trial.hoursUntilAllIn(most);
    }

    // ---- texts

    public int put(long characters) {
        return pad.append(characters);
    }

    public int wipe() {
        return pad.clear();
    }

    public int fault() {
        return reader.findFault();
    }

    public int carryOut() {
        if (reader.findFault() != NONE) return BAD_TEXT;
        history.prepare(hall);
        int carriedOut = 0;
        reader.start();
        for (int order = 0; order < MOST_CHARACTERS; order++) {
            reader.readOrder();
            if (carryOutOne() < 0) break;
            carriedOut++;
            if (!reader.take(';')) break;
        }
        pad.clear();
        return history.settle(carriedOut);
    }

    private int carryOutOne() {
        switch (reader.kind) {
            case '+': return hall.addStand(reader.first, reader.second, reader.third, reader.base);
            case 'c': return hall.addCrew(reader.first, reader.second);
            case 'd': return hall.changeSetting(DOCK, reader.first);
            case 't': return hall.passHours(reader.first);
            case 'e': return hall.endFair();
            default: return BAD_TEXT;
        }
    }

    // ---- undo, saving

    public int undo() {
        return history.stepBack(hall);
    }

    public int save(int slot) {
        return slots.keep(slot, hall);
    }

    public int restore(int slot) {
        history.prepare(hall);
        return history.settle(slots.giveBack(slot, hall));
    }

    private static boolean isWithin(int value, int least, int most) {
        return value >= least && value <= most;
    }

    private static void copyRow(int[] from, int[] to) {
        System.arraycopy(from, 0, to, 0, Math.min(from.length, to.length));
    }

    /** The stands that came, a row for each thing that is known of them. */
    private static final class Stands {
        private int count;
        private final int[] hours = new int[MOST_STANDS];
        private final int[] length = new int[MOST_STANDS];
        private final int[] power = new int[MOST_STANDS];
        private final int[] base = new int[MOST_STANDS];
        private final int[] state = new int[MOST_STANDS];
        private final int[] left = new int[MOST_STANDS];
        private final int[] phase = new int[MOST_STANDS];
        private final int[] crew = new int[MOST_STANDS];
        private final int[] spent = new int[MOST_STANDS];
        private final int[] leaving = new int[MOST_STANDS];

        void copyFrom(Stands other) {
            count = other.count;
            copyRow(other.hours, hours);
            copyRow(other.length, length);
            copyRow(other.power, power);
            copyRow(other.base, base);
            copyRow(other.state, state);
            copyRow(other.left, left);
            copyRow(other.phase, phase);
            copyRow(other.crew, crew);
            copyRow(other.spent, spent);
            copyRow(other.leaving, leaving);
        }

        boolean has(int s) {
            return s >= 0 && s < count;
        }

        boolean isGone(int s) {
            return has(s) && state[s] == GONE;
        }

        int append(int itsHours, int itsLength, int itsPower, int itsBase) {
            int s = count;
            if (s >= MOST_STANDS) return TOO_MANY;
            hours[s] = itsHours;
            length[s] = itsLength;
            power[s] = itsPower;
            base[s] = itsBase;
            state[s] = TOLD;
            left[s] = itsHours;
            phase[s] = NONE;
            crew[s] = NONE;
            spent[s] = 0;
            leaving[s] = 0;
            count++;
            return s;
        }

        int tell(int s, int what) {
            if (!has(s)) return NO_SUCH;
            switch (what) {
                case 0: return hours[s];
                case 1: return length[s];
                case 2: return power[s];
                case 3: return base[s];
                case 4: return state[s];
                case 5: return left[s];
                case 6: return phase[s];
                case 7: return crew[s];
                case 8: return standingOn(s);
                case 9: return spent[s];
                default: return BAD_VALUE;
            }
        }

        int standingOn(int s) {
            int set = 0;
            for (int other = 0; other < count; other++) {
                if (base[other] == s && state[other] != GONE) set |= 1 << other;
            }
            return set;
        }

        int countIn(int wanted) {
            int found = 0;
            for (int s = 0; s < count; s++) {
                if (state[s] == wanted) found++;
            }
            return found;
        }

        int metersAtDock() {
            int meters = 0;
            for (int s = 0; s < count; s++) {
                if (state[s] == AT_DOCK) meters += length[s];
            }
            return meters;
        }

        int builtWithoutPower() {
            int found = 0;
            for (int s = 0; s < count; s++) {
                if (state[s] == BUILT && power[s] > 0 && phase[s] == NONE) found++;
            }
            return found;
        }

        boolean baseIsBuilt(int s) {
            if (!has(s)) return false;
            int under = base[s];
            return !has(under) || state[under] == BUILT;
        }

        int nextToBuild() {
            for (int s = 0; s < count; s++) {
                if (state[s] == READY && baseIsBuilt(s)) return s;
            }
            return NONE;
        }

        int nextToDismantle() {
            for (int s = count - 1; s >= 0; s--) {
                if (state[s] == BUILT && standingOn(s) == 0) return s;
            }
            return NONE;
        }

        int clearUnbuilt() {
            int cleared = 0;
            for (int s = 0; s < count; s++) {
                if (state[s] < BUILT) {
                    state[s] = GONE;
                    left[s] = 0;
                    crew[s] = NONE;
                    cleared++;
                }
            }
            return cleared;
        }
    }

    /** The crews that came, a row for each thing that is known of them. */
    private static final class Crews {
        private int count;
        private final int[] speed = new int[MOST_CREWS];
        private final int[] rate = new int[MOST_CREWS];
        private final int[] stand = new int[MOST_CREWS];
        private final int[] worked = new int[MOST_CREWS];
        private final int[] built = new int[MOST_CREWS];
        private final int[] dismantled = new int[MOST_CREWS];

        void copyFrom(Crews other) {
            count = other.count;
            copyRow(other.speed, speed);
            copyRow(other.rate, rate);
            copyRow(other.stand, stand);
            copyRow(other.worked, worked);
            copyRow(other.built, built);
            copyRow(other.dismantled, dismantled);
        }

        int append(int itsSpeed, int itsRate) {
            int c = count;
            if (c >= MOST_CREWS) return TOO_MANY;
            speed[c] = itsSpeed;
            rate[c] = itsRate;
            stand[c] = NONE;
            worked[c] = 0;
            built[c] = 0;
            dismantled[c] = 0;
            count++;
            return c;
        }

        int tell(int c, int what) {
            if (c < 0 || c >= count) return NO_SUCH;
            switch (what) {
                case 0: return speed[c];
                case 1: return rate[c];
                case 2: return stand[c];
                case 3: return worked[c];
                case 4: return worked[c] * rate[c];
                case 5: return built[c];
                case 6: return dismantled[c];
                default: return BAD_VALUE;
            }
        }

        int costs() {
            int sum = 0;
            for (int c = 0; c < count; c++) sum += worked[c] * rate[c];
            return sum;
        }

        void letAllGo() {
            for (int c = 0; c < count; c++) stand[c] = NONE;
        }
    }

    /** All that undo and the slots bring back: the settings, the stands, the crews, the loads, the hour. */
    private static final class Hall {
        private final int[] settings = FIRST_SETTINGS.clone();
        private final int[] loads = new int[PHASES];
        private final Stands stands = new Stands();
        private final Crews crews = new Crews();
        private int hour;
        private boolean ended;
        private int lost;

        void copyFrom(Hall other) {
            copyRow(other.settings, settings);
            copyRow(other.loads, loads);
            stands.copyFrom(other.stands);
            crews.copyFrom(other.crews);
            hour = other.hour;
            ended = other.ended;
            lost = other.lost;
        }

        int changeSetting(int setting, int value) {
            if (setting < 0 || setting >= settings.length || setting >= MOST_OF_SETTINGS.length) return BAD_VALUE;
            if (!isWithin(value, 1, MOST_OF_SETTINGS[setting])) return BAD_VALUE;
            int previous = settings[setting];
            settings[setting] = value;
            return previous;
        }

        int addStand(int hours, int length, int power, int base) {
            if (!isWithin(hours, 1, MOST_WORK)) return BAD_VALUE;
            if (!isWithin(length, 1, MOST_LENGTH)) return BAD_VALUE;
            if (!isWithin(power, 0, MOST_POWER)) return BAD_VALUE;
            if (base != NONE && !stands.has(base)) return NO_SUCH;
            if (stands.count >= MOST_STANDS) return TOO_MANY;
            if (ended || stands.isGone(base)) return NOT_POSSIBLE;
            return stands.append(hours, length, power, base);
        }

        int addCrew(int speed, int rate) {
            if (!isWithin(speed, 1, MOST_SPEED) || !isWithin(rate, 0, MOST_RATE)) return BAD_VALUE;
            return crews.append(speed, rate);
        }

        int endFair() {
            if (ended) return NOT_POSSIBLE;
            ended = true;
            // Before the end, crews have no other stands than those that are being built.
            crews.letAllGo();
            return stands.clearUnbuilt();
        }

        int findLost() {
            if (lost <= 0) return NOT_POSSIBLE;
            lost--;
            return lost;
        }

        int passHours(int hours) {
            if (!isWithin(hours, 1, MOST_HOURS_AT_ONCE)) return BAD_VALUE;
            if (hour + hours > MOST_HOURS) return NOT_POSSIBLE;
            int finished = 0;
            for (int passed = 0; passed < hours; passed++) finished += passOneHour();
            return finished;
        }

        int loadOf(int phase) {
            return phase < 0 || phase >= loads.length ? NO_SUCH : loads[phase];
        }

        int number(int what) {
            switch (what) {
                case 0: return hour;
                case 1: return stands.count;
                case 2: return crews.count;
                case 3: return stands.countIn(TOLD);
                case 4: return stands.countIn(AT_DOCK);
                case 5: return stands.countIn(READY);
                case 6: return stands.countIn(BUILDING);
                case 7: return stands.countIn(BUILT);
                case 8: return stands.countIn(DISMANTLING);
                case 9: return stands.countIn(GONE);
                case 10: return stands.metersAtDock();
                case 11: return ended ? 1 : 0;
                case 12: return lost;
                case 13: return crews.costs();
                case 14: return stands.builtWithoutPower();
                case 15: return settings[DOCK];
                case 16: return settings[UNLOAD];
                case 17: return settings[PHASE];
                default: return BAD_VALUE;
            }
        }

        int reasonToWait(int s) {
            if (!stands.has(s)) return NO_SUCH;
            switch (stands.state[s]) {
                case TOLD: return FOR_DOCK;
                case AT_DOCK: return FOR_UNLOADING;
                case READY: return stands.baseIsBuilt(s) ? FOR_CREW : FOR_BASE;
                case BUILT:
                    if (!ended) return FOR_NOTHING;
                    return stands.standingOn(s) == 0 ? FOR_CREW : FOR_STANDS_ON_IT;
                default: return FOR_NOTHING;
            }
        }

        int hoursUntilAllIn(int most) {
            int start = hour;
            // Each round passes an hour at least, so there are no more rounds than hours.
            for (int round = 0; round < most && !allAreIn(); round++) {
                int rest = start + most - hour;
                if (rest <= 0) return NONE;
                boolean quiet = passOneHour() == 0;
                if (quiet) passQuietHours(Math.min(quietHours(), rest - 1));
            }
            return allAreIn() ? hour - start : NONE;
        }

        private boolean allAreIn() {
            int gone = stands.countIn(GONE);
            return stands.count == (ended ? gone : gone + stands.countIn(BUILT));
        }

        private int passOneHour() {
            lorriesLeave();
            lorriesCome();
            crewsTakeStands();
            int finished = crewsWork(1);
            hour++;
            return finished;
        }

        // Behind an hour in which nothing was finished, all stays as it is but for the work,
        // until a lorry leaves or a crew comes to its last hour on a stand.
        private int quietHours() {
            int quiet = MOST_TRIAL_HOURS;
            for (int s = 0; s < stands.count; s++) {
                if (stands.state[s] == AT_DOCK) quiet = Math.min(quiet, stands.leaving[s] - hour);
            }
            for (int c = 0; c < crews.count; c++) {
                int s = crews.stand[c];
                int speed = crews.speed[c];
                if (stands.has(s) && speed > 0) quiet = Math.min(quiet, (stands.left[s] - 1) / speed);
            }
            return quiet;
        }

        private void passQuietHours(int hours) {
            if (hours <= 0) return;
            crewsWork(hours);
            hour += hours;
        }

        private void lorriesLeave() {
            for (int s = 0; s < stands.count; s++) {
                if (stands.state[s] == AT_DOCK && stands.leaving[s] <= hour) stands.state[s] = READY;
            }
        }

        private void lorriesCome() {
            int meters = stands.metersAtDock();
            for (int s = 0; s < stands.count; s++) {
                if (stands.state[s] != TOLD) continue;
                meters += stands.length[s];
                if (meters > settings[DOCK]) return;
                stands.state[s] = AT_DOCK;
                stands.leaving[s] = hour + settings[UNLOAD];
            }
        }

        private void crewsTakeStands() {
            for (int c = 0; c < crews.count; c++) {
                if (crews.stand[c] != NONE) continue;
                int s = ended ? stands.nextToDismantle() : stands.nextToBuild();
                if (!stands.has(s)) return;
                crews.stand[c] = s;
                stands.crew[s] = c;
                if (ended) beginToDismantle(s);
                else stands.state[s] = BUILDING;
            }
        }

        private void beginToDismantle(int s) {
            if (!stands.has(s)) return;
            takeOffPhase(s);
            stands.state[s] = DISMANTLING;
            stands.left[s] = (stands.hours[s] + 1) / 2;
        }

        private int crewsWork(int hours) {
            int finished = 0;
            for (int c = 0; c < crews.count; c++) {
                int s = crews.stand[c];
                if (!stands.has(s)) continue;
                crews.worked[c] += hours;
                stands.spent[s] += hours;
                stands.left[s] = Math.max(0, stands.left[s] - hours * crews.speed[c]);
                if (stands.left[s] > 0) continue;
                finish(c, s);
                finished++;
            }
            return finished;
        }

        private void finish(int c, int s) {
            if (c < 0 || c >= crews.count || !stands.has(s)) return;
            crews.stand[c] = NONE;
            stands.crew[s] = NONE;
            if (stands.state[s] == BUILDING) {
                stands.state[s] = BUILT;
                crews.built[c]++;
                putOnPhase(s);
            } else {
                stands.state[s] = GONE;
                crews.dismantled[c]++;
                if ((s + hour) % LOSS_EVERY == 0) lost++;
            }
        }

        private void putOnPhase(int s) {
            if (!stands.has(s)) return;
            int least = 0;
            for (int phase = 1; phase < loads.length; phase++) {
                if (loads[phase] < loads[least]) least = phase;
            }
            int load = loads[least] + stands.power[s];
            if (load > settings[PHASE]) return;
            loads[least] = load;
            stands.phase[s] = least;
        }

        private void takeOffPhase(int s) {
            if (!stands.has(s)) return;
            int phase = stands.phase[s];
            if (phase < 0 || phase >= loads.length) return;
            loads[phase] -= stands.power[s];
            stands.phase[s] = NONE;
        }
    }

    /** The states before the latest changes, in a ring. */
    private static final class History {
        // One row more than can be undone: a change that fails must not overwrite the oldest state.
        private final Hall[] states = new Hall[MOST_UNDO + 1];
        private int next;
        private int kept;

        History() {
            for (int k = 0; k < states.length; k++) states[k] = new Hall();
        }

        void prepare(Hall hall) {
            Hall state = stateAt(next);
            if (state != null) state.copyFrom(hall);
        }

        int settle(int answer) {
            if (answer < 0) return answer;
            next = next + 1 < states.length ? next + 1 : 0;
            kept = Math.min(kept + 1, MOST_UNDO);
            return answer;
        }

        int stepBack(Hall hall) {
            if (kept <= 0) return NOT_POSSIBLE;
            next = next > 0 ? next - 1 : states.length - 1;
            kept--;
            Hall state = stateAt(next);
            if (state != null) hall.copyFrom(state);
            return kept;
        }

        private Hall stateAt(int k) {
            return k >= 0 && k < states.length ? states[k] : null;
        }
    }

    /** The saved states. */
    private static final class Slots {
        private final Hall[] states = new Hall[SLOTS];
        private final boolean[] saved = new boolean[SLOTS];

        Slots() {
            for (int slot = 0; slot < states.length; slot++) states[slot] = new Hall();
        }

        int keep(int slot, Hall hall) {
            if (slot < 0 || slot >= states.length || slot >= saved.length) return BAD_VALUE;
            Hall state = states[slot];
            if (state == null) return BAD_VALUE;
            state.copyFrom(hall);
            saved[slot] = true;
            return hall.stands.count;
        }

        int giveBack(int slot, Hall hall) {
            if (slot < 0 || slot >= states.length || slot >= saved.length) return BAD_VALUE;
            Hall state = states[slot];
            if (state == null || !saved[slot]) return NOT_POSSIBLE;
            hall.copyFrom(state);
            return hall.stands.count;
        }
    }

    /** The text of orders as it was put together. */
    private static final class Pad {
        private static final char NO_CHARACTER = 0;
        private static final int LEAST_CODE = 33, MOST_CODE = 126;
        private static final int AT_ONCE = 8;

        private final char[] text = new char[MOST_CHARACTERS];
        private int length;

        char at(int index) {
            return index >= 0 && index < length && index < text.length ? text[index] : NO_CHARACTER;
        }

        int append(long characters) {
            int more = wellFormed(characters);
            if (more == 0) return BAD_VALUE;
            if (length + more > text.length) return TOO_MANY;
            for (int k = more - 1; k >= 0; k--) {
                text[length] = (char) (characters >>> (8 * k) & 255);
                length++;
            }
            return length;
        }

        int clear() {
            int previous = length;
            length = 0;
            return previous;
        }

        /** How many characters there are; 0 if there is none or one that is not allowed. */
        private static int wellFormed(long characters) {
            int count = 0;
            long rest = characters;
            for (int k = 0; k < AT_ONCE && rest != 0; k++) {
                int code = (int) (rest & 255);
                if (!isWithin(code, LEAST_CODE, MOST_CODE)) return 0;
                count++;
                rest >>>= 8;
            }
            return count;
        }
    }

    /** Reads the pad from left to right; behind a fault it stays where the fault is. */
    private static final class OrderReader {
        private final Pad pad = new Pad();
        private int at;
        private boolean faulty;
        // The order that was read last.
        private int kind;
        private int first, second, third, base;

        void start() {
            at = 0;
            faulty = false;
        }

        int findFault() {
            start();
            boolean more = true;
            for (int order = 0; order < MOST_CHARACTERS && more; order++) {
                readOrder();
                more = take(';');
            }
            return faulty || at < pad.length ? at : NONE;
        }

        void readOrder() {
            kind = pad.at(at);
            base = NONE;
            if (take('+')) {
                first = readNumber();
                expect(',');
                second = readNumber();
                expect(',');
                third = readNumber();
                if (take('^')) base = readNumber();
            } else if (take('c')) {
                first = readDigit();
                expect('$');
                second = readNumber();
            } else if (take('d') || take('t')) {
                first = readNumber();
            } else {
                expect('e');
            }
        }

        boolean take(char wanted) {
            if (faulty || pad.at(at) != wanted) return false;
            at++;
            return true;
        }

        private void expect(char wanted) {
            if (!take(wanted)) faulty = true;
        }

        private int readNumber() {
            if (take('0')) return 0;
            int number = readDigit();
            if (!faulty && isWithin(pad.at(at), '0', '9')) {
                number = 10 * number + pad.at(at) - '0';
                at++;
            }
            return number;
        }

        private int readDigit() {
            char sign = pad.at(at);
            if (faulty || !isWithin(sign, '1', '9')) {
                faulty = true;
                return 0;
            }
            at++;
            return sign - '0';
        }
    }
}
