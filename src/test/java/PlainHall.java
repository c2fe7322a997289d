import java.util.ArrayList;
import java.util.List;
import java.util.regex.Matcher;
import java.util.regex.Pattern;

/**
 * The document once more, hour by hour and with the library's lists, as slow and as plain as can be:
 * ModelTest holds HallBuilds against it.
 */
final class PlainHall {
    private static final int NO_SUCH = -1, BAD_VALUE = -2, BAD_TEXT = -3, TOO_MANY = -4, NOT_POSSIBLE = -5, NONE = -6;
    private static final Pattern TEXT = Pattern.compile(text());

    private static String text() {
        String number = "(?:0|[1-9][0-9]?)";
        String order = "(?:\\+N,N,N(?:\\^N)?|c[1-9]\\$N|dN|tN|e)".replace("N", number);
        return order + "(?:;" + order + ")*";
    }

    private static final class Stand {
        int hours, length, power, base, how, left, phase = NONE, spent, hoursAtDock;

        Stand copy() {
            Stand copy = new Stand();
            copy.hours = hours;
            copy.length = length;
            copy.power = power;
            copy.base = base;
            copy.how = how;
            copy.left = left;
            copy.phase = phase;
            copy.spent = spent;
            copy.hoursAtDock = hoursAtDock;
            return copy;
        }
    }

    private static final class Crew {
        int speed, rate, stand = NONE, hours, cost, built, dismantled;

        Crew copy() {
            Crew copy = new Crew();
            copy.speed = speed;
            copy.rate = rate;
            copy.stand = stand;
            copy.hours = hours;
            copy.cost = cost;
            copy.built = built;
            copy.dismantled = dismantled;
            return copy;
        }
    }

    private static final class State {
        int[] settings = {20, 2, 60};
        int hours, lost;
        boolean ended;
        List<Stand> stands = new ArrayList<>();
        List<Crew> crews = new ArrayList<>();

        State copy() {
            State copy = new State();
            copy.settings = settings.clone();
            copy.hours = hours;
            copy.lost = lost;
            copy.ended = ended;
            for (Stand stand : stands) copy.stands.add(stand.copy());
            for (Crew crew : crews) copy.crews.add(crew.copy());
            return copy;
        }

        Stand base(Stand stand) {
            return stand.base == NONE ? null : stands.get(stand.base);
        }

        boolean isFree(int number) {
            for (Stand other : stands) if (other.base == number && other.how != 6) return false;
            return true;
        }

        int load(int phase) {
            int sum = 0;
            for (Stand stand : stands) if (stand.phase == phase) sum += stand.power;
            return sum;
        }

        int dock() {
            int sum = 0;
            for (Stand stand : stands) if (stand.how == 1) sum += stand.length;
            return sum;
        }

        int crewOf(int number) {
            for (int c = 0; c < crews.size(); c++) if (crews.get(c).stand == number) return c;
            return NONE;
        }

        boolean isAllIn() {
            for (Stand stand : stands) {
                if (stand.how == 6 || stand.how == 4 && !ended) continue;
                return false;
            }
            return true;
        }

        int set(int setting, int value) {
            int[] most = {60, 9, 999};
            if (setting < 0 || setting > 2 || value < 1 || value > most[setting]) return BAD_VALUE;
            int before = settings[setting];
            settings[setting] = value;
            return before;
        }

        int stand(int hours, int length, int power, int base) {
            if (hours < 1 || hours > 99 || length < 1 || length > 20 || power < 0 || power > 99) return BAD_VALUE;
            if (base != NONE && (base < 0 || base >= stands.size())) return NO_SUCH;
            if (stands.size() == 20) return TOO_MANY;
            if (ended) return NOT_POSSIBLE;
            if (base != NONE && stands.get(base).how == 6) return NOT_POSSIBLE;
            Stand stand = new Stand();
            stand.hours = hours;
            stand.left = hours;
            stand.length = length;
            stand.power = power;
            stand.base = base;
            stands.add(stand);
            return stands.size() - 1;
        }

        int crew(int speed, int rate) {
            if (speed < 1 || speed > 9 || rate < 0 || rate > 99) return BAD_VALUE;
            if (crews.size() == 6) return TOO_MANY;
            Crew crew = new Crew();
            crew.speed = speed;
            crew.rate = rate;
            crews.add(crew);
            return crews.size() - 1;
        }

        int end() {
            if (ended) return NOT_POSSIBLE;
            ended = true;
            int gone = 0;
            for (int s = 0; s < stands.size(); s++) {
                Stand stand = stands.get(s);
                if (stand.how == 4) continue;
                int crew = crewOf(s);
                if (crew != NONE) crews.get(crew).stand = NONE;
                stand.how = 6;
                stand.left = 0;
                gone++;
            }
            return gone;
        }

        int find() {
            return lost == 0 ? NOT_POSSIBLE : --lost;
        }

        int pass(int count) {
            if (count < 1 || count > 99) return BAD_VALUE;
            if (hours + count > 9999) return NOT_POSSIBLE;
            int ready = 0;
            for (int k = 0; k < count; k++) ready += hour();
            return ready;
        }

        int hour() {
            for (Stand stand : stands) if (stand.how == 1 && stand.hoursAtDock-- == 0) stand.how = 2;
            for (Stand stand : stands) {
                if (stand.how != 0) continue;
                if (dock() + stand.length > settings[0]) break;
                stand.how = 1;
                stand.hoursAtDock = settings[1] - 1;
            }
            for (Crew crew : crews) if (crew.stand == NONE) take(crew);
            int ready = 0;
            for (Crew crew : crews) {
                if (crew.stand == NONE) continue;
                Stand stand = stands.get(crew.stand);
                crew.hours++;
                crew.cost += crew.rate;
                stand.spent++;
                stand.left = stand.left < crew.speed ? 0 : stand.left - crew.speed;
                if (stand.left == 0) {
                    ready++;
                    complete(crew, stand);
                }
            }
            hours++;
            return ready;
        }

        void take(Crew crew) {
            int found = NONE;
            for (int s = 0; s < stands.size(); s++) {
                Stand stand = stands.get(s);
                if (!ended) {
                    Stand base = base(stand);
                    if (found == NONE && stand.how == 2 && (base == null || base.how == 4)) found = s;
                } else if (stand.how == 4 && isFree(s)) {
                    found = s;
                }
            }
            crew.stand = found;
            if (found == NONE) return;
            Stand stand = stands.get(found);
            stand.how = ended ? 5 : 3;
            if (ended) {
                stand.phase = NONE;
                stand.left = stand.hours / 2 + stand.hours % 2;
            }
        }

        void complete(Crew crew, Stand stand) {
            int number = crew.stand;
            crew.stand = NONE;
            if (stand.how == 5) {
                stand.how = 6;
                crew.dismantled++;
                if ((number + hours) % 4 == 0) lost++;
                return;
            }
            stand.how = 4;
            crew.built++;
            int best = 0;
            for (int phase = 1; phase < 3; phase++) if (load(phase) < load(best)) best = phase;
            if (load(best) + stand.power <= settings[2]) stand.phase = best;
        }

        int hoursToAllIn() {
            for (int passed = 0; passed <= 1000; passed++) {
                if (isAllIn()) return passed;
                hour();
            }
            return NONE;
        }
    }

    private State now = new State();
    private final List<State> history = new ArrayList<>();
    private final State[] slots = new State[2];
    private String pad = "";

    private int change(State before, int answer) {
        if (answer < 0) return answer;
        history.add(before);
        if (history.size() > 6) history.remove(0);
        return answer;
    }

    int set(int setting, int value) {
        return change(now.copy(), now.set(setting, value));
    }

    int stand(int hours, int length, int power, int base) {
        return change(now.copy(), now.stand(hours, length, power, base));
    }

    int crew(int speed, int rate) {
        return change(now.copy(), now.crew(speed, rate));
    }

    int end() {
        return change(now.copy(), now.end());
    }

    int find() {
        return change(now.copy(), now.find());
    }

    int pass(int hours) {
        return change(now.copy(), now.pass(hours));
    }

    int ofStand(int number, int what) {
        if (number < 0 || number >= now.stands.size()) return NO_SUCH;
        if (what < 0 || what > 9) return BAD_VALUE;
        Stand stand = now.stands.get(number);
        int on = 0;
        for (int s = 0; s < now.stands.size(); s++) {
            if (now.stands.get(s).base == number && now.stands.get(s).how != 6) on += 1 << s;
        }
        int[] answers = {stand.hours, stand.length, stand.power, stand.base, stand.how, stand.left, stand.phase,
            now.crewOf(number), on, stand.spent};
        return answers[what];
    }

    int ofCrew(int number, int what) {
        if (number < 0 || number >= now.crews.size()) return NO_SUCH;
        if (what < 0 || what > 6) return BAD_VALUE;
        Crew crew = now.crews.get(number);
        int[] answers = {crew.speed, crew.rate, crew.stand, crew.hours, crew.cost, crew.built, crew.dismantled};
        return answers[what];
    }

    int load(int phase) {
        return phase < 0 || phase > 2 ? NO_SUCH : now.load(phase);
    }

    int count(int what) {
        if (what < 0 || what > 19) return BAD_VALUE;
        int[] answers = new int[20];
        answers[0] = now.hours;
        answers[1] = now.stands.size();
        answers[2] = now.crews.size();
        for (Stand stand : now.stands) {
            answers[3 + stand.how]++;
            if (stand.how == 4 && stand.power != 0 && stand.phase == NONE) answers[14]++;
        }
        answers[10] = now.dock();
        answers[11] = now.ended ? 1 : 0;
        answers[12] = now.lost;
        for (Crew crew : now.crews) answers[13] += crew.cost;
        for (int k = 0; k < 3; k++) answers[15 + k] = now.settings[k];
        answers[18] = pad.length();
        answers[19] = history.size();
        return answers[what];
    }

    int waitsFor(int number) {
        if (number < 0 || number >= now.stands.size()) return NO_SUCH;
        Stand stand = now.stands.get(number);
        Stand base = now.base(stand);
        if (stand.how == 0) return 1;
        if (stand.how == 1) return 2;
        if (stand.how == 2 && base != null && base.how != 4) return 3;
        if (stand.how == 2) return 4;
        if (stand.how == 4 && now.ended) return now.isFree(number) ? 4 : 5;
        return 0;
    }

    int allIn() {
        return now.copy().hoursToAllIn();
    }

    int withCrew(int speed) {
        if (speed < 1 || speed > 9) return BAD_VALUE;
        if (now.crews.size() == 6) return TOO_MANY;
        State other = now.copy();
        other.crew(speed, 99);
        return other.hoursToAllIn();
    }

    int leastDock() {
        int hours = hoursWithDock(60);
        if (hours == NONE) return NONE;
        for (int dock = 1; ; dock++) {
            int its = hoursWithDock(dock);
            if (its != NONE && its <= hours) return dock;
        }
    }

    private int hoursWithDock(int dock) {
        State other = now.copy();
        other.settings[0] = dock;
        return other.hoursToAllIn();
    }

    int put(long characters) {
        byte[] codes = new byte[8];
        for (int k = 0; k < 8; k++) codes[k] = (byte) (characters >>> (56 - 8 * k));
        StringBuilder more = new StringBuilder();
        for (byte code : codes) {
            if (code == 0 && more.length() == 0) continue;
            if (code < 33 || code > 126) return BAD_VALUE;
            more.append((char) code);
        }
        if (more.length() == 0) return BAD_VALUE;
        if (pad.length() + more.length() > 80) return TOO_MANY;
        pad += more;
        return pad.length();
    }

    int wipe() {
        int before = pad.length();
        pad = "";
        return before;
    }

    int fault() {
        if (TEXT.matcher(pad).matches()) return NONE;
        for (int end = 1; end <= pad.length(); end++) {
            Matcher matcher = TEXT.matcher(pad.substring(0, end));
            if (!matcher.matches() && !matcher.hitEnd()) return end - 1;
        }
        return pad.length();
    }

    int carryOut() {
        if (fault() != NONE) return BAD_TEXT;
        State before = now.copy();
        int count = 0;
        for (String order : pad.split(";")) {
            if (carryOut(order) < 0) break;
            count++;
        }
        pad = "";
        return change(before, count);
    }

    private int carryOut(String order) {
        String[] parts = order.substring(1).split("[,^$]");
        int[] numbers = new int[parts.length];
        for (int k = 0; k < parts.length; k++) numbers[k] = parts[k].isEmpty() ? 0 : Integer.parseInt(parts[k]);
        switch (order.charAt(0)) {
            case '+': return now.stand(numbers[0], numbers[1], numbers[2], numbers.length > 3 ? numbers[3] : NONE);
            case 'c': return now.crew(numbers[0], numbers[1]);
            case 'd': return now.set(0, numbers[0]);
            case 't': return now.pass(numbers[0]);
            default: return now.end();
        }
    }

    int undo() {
        if (history.isEmpty()) return NOT_POSSIBLE;
        now = history.remove(history.size() - 1);
        return history.size();
    }

    int save(int slot) {
        if (slot < 0 || slot > 1) return BAD_VALUE;
        slots[slot] = now.copy();
        return now.stands.size();
    }

    int restore(int slot) {
        if (slot < 0 || slot > 1) return BAD_VALUE;
        if (slots[slot] == null) return NOT_POSSIBLE;
        State before = now.copy();
        now = slots[slot].copy();
        return change(before, now.stands.size());
    }
}
