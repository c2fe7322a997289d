/** What the document's opening names, looked at behind each hour of many unlike fairs, from their first hour to their last. */
final class OpeningSentences extends Sentences {
    private static final String OPENING = "What it is";
    private static final int FAIRS = 60;
    private static final int MOST_HOURS = 150;

    private int[] statesBefore = {};
    private int lost;

    OpeningSentences(Check check, Document document) {
        super(check, document);
    }

    void run() {
        for (int k = 0; k < FAIRS; k++) {
            open(k);
            for (int hour = 0; hour < MOST_HOURS && x.count(9) < x.count(1); hour++) {
                if (hour == 40 + k || x.count(11) == 0 && x.allIn() == 0) x.end();
                anHour(k + hour);
                lookAround();
            }
        }
    }

    /** The fairs differ in their settings, crews and stands; some end before all is built. */
    private void open(int k) {
        x = new HallBuilds();
        x.set(DOCK, 20 + 7 * k % 30);
        x.set(UNLOAD, 1 + k % 4);
        x.set(PHASE, 60 + 40 * (k % 7));
        for (int c = 0; c <= k % 4; c++) x.crew(1 + (4 * k + 5 * c) % 9, 5 + 7 * c);
        for (int s = 0; s <= (7 * k + 3) % 20; s++) {
            boolean alone = s == 0 || (k + s) % 3 > 0;
            x.stand(1 + (13 * k + 29 * s) % 40, 1 + (11 * k + 7 * s) % 20, (17 * k + 31 * s) % 100, alone ? NONE : (5 * k + s) % s);
        }
        lost = 0;
    }

    private void anHour(int way) {
        statesBefore = new int[x.count(1)];
        for (int s = 0; s < statesBefore.length; s++) statesBefore[s] = x.ofStand(s, 4);
        untilAllIsIn(way);
        for (int s = 0; s < statesBefore.length; s++) {
            boolean dismantled = statesBefore[s] != GONE && x.ofStand(s, 4) == GONE;
            if (dismantled && (s + x.count(0) - 1) % 4 == 0) lost++;
        }
        if (lost > 0 && way % 5 == 0) {
            holdsOf("what is lost and found,");
            lost--;
            due("find()", x.find(), lost);
        }
    }

    private void untilAllIsIn(int way) {
        int hours = x.allIn();
        passes(way);
        holdsOf("when all is built,");
        due("an hour less than " + hours, x.allIn(), hours == NONE ? x.allIn() : Math.max(0, hours - 1));
    }

    /** Lets one hour pass: by a call, by a text, once more behind undo, or once more behind what was saved. */
    private void passes(int way) {
        holdsOf("days that are read from texts, undo, and saved states.");
        if (way % 3 == 1) x.save(way % 2);
        int finished = x.pass(1);
        String view = view(x);
        if (way % 3 == 0) return;
        if (way % 3 == 1) due("stands that were saved", x.restore(way % 2), x.count(1));
        else due("changes that can be undone", x.undo(), x.count(19));
        if (way % 2 == 0) due("the same once more", x.pass(1), finished);
        else due("the same as a text", carryOut("t1"), 1);
        same("the hour once more", view(x), view);
    }

    /** The object stays the same; only the sentence changes. */
    private void holdsOf(String words) {
        holdsToo(OPENING, words);
    }

    private void lookAround() {
        hours();
        lorries();
        inOrder();
        onOthers();
        power();
        agree();
        waiting();
        anotherCrew();
        holdsOf("what is lost and found,");
        due("lost", x.count(12), lost);
    }

    private void hours() {
        holdsOf("The build of an exhibition hall: stands with hours of crews,");
        for (int s = 0; s < x.count(1); s++) {
            int crew = x.ofStand(s, 7);
            boolean worked = x.ofStand(s, 4) == BUILDING || x.ofStand(s, 4) == DISMANTLING;
            due("stand " + s + " has a crew", crew == NONE ? 0 : 1, worked ? 1 : 0);
            if (crew != NONE) due("the crew of stand " + s + " has it", x.ofCrew(crew, 2), s);
            if (x.ofStand(s, 4) != BUILDING) continue;
            due("hours left of " + s, x.ofStand(s, 5), x.ofStand(s, 0) - x.ofStand(s, 9) * x.ofCrew(crew, 0));
        }
    }

    private void lorries() {
        holdsOf("lorries that wait for docks by their lengths,");
        int meters = 0;
        int first = NONE;
        for (int s = x.count(1) - 1; s >= 0; s--) {
            if (x.ofStand(s, 4) == AT_DOCK) meters += x.ofStand(s, 1);
            if (x.ofStand(s, 4) == TOLD) first = s;
            else due("a later one than " + s + " has come before", first == NONE || first > s ? 1 : 0, 1);
        }
        due("meters", x.count(10), meters);
        due("within the dock", meters <= x.count(15) ? 1 : 0, 1);
        if (first != NONE) due("the next has room", meters + x.ofStand(first, 1) <= x.count(15) ? 1 : 0, 0);
    }

    private void inOrder() {
        holdsOf("crews with rates who build in order,");
        boolean lowerWaits = false;
        for (int s = 0; s < x.count(1); s++) {
            int state = x.ofStand(s, 4);
            int base = x.ofStand(s, 3);
            boolean taken = statesBefore[s] < BUILDING && (state == BUILDING || state == BUILT);
            due("stand " + s + " taken before a lower one", taken && lowerWaits ? 1 : 0, 0);
            lowerWaits |= state == READY && (base == NONE || statesBefore[base] == BUILT);
        }
        for (int c = 0; c < x.count(2); c++) due("cost of crew " + c, x.ofCrew(c, 4), x.ofCrew(c, 3) * x.ofCrew(c, 1));
    }

    private void onOthers() {
        holdsOf("stands that stand on others and are dismantled in the opposite order,");
        for (int s = 0; s < x.count(1); s++) {
            int base = x.ofStand(s, 3);
            if (base == NONE) continue;
            int state = x.ofStand(s, 4);
            if (state == BUILDING || state == BUILT || state == DISMANTLING) due("base of " + s, x.ofStand(base, 4), BUILT);
            if (state != GONE) due("base of " + s + " has it", x.ofStand(base, 8) >> s & 1, 1);
        }
    }

    private void power() {
        holdsOf("power by phases,");
        int[] loads = new int[3];
        int without = 0;
        for (int s = 0; s < x.count(1); s++) {
            int phase = x.ofStand(s, 6);
            if (phase != NONE) loads[phase] += x.ofStand(s, 2);
            if (phase != NONE) due("stand " + s + " on a phase", x.ofStand(s, 4), BUILT);
            if (phase == NONE && x.ofStand(s, 4) == BUILT && x.ofStand(s, 2) > 0) without++;
        }
        for (int phase = 0; phase < 3; phase++) {
            due("load of " + phase, x.load(phase), loads[phase]);
            due("load of " + phase + " within PHASE", loads[phase] <= x.count(17) ? 1 : 0, 1);
        }
        due("without power", x.count(14), without);
    }

    private void agree() {
        holdsOf("hours that agree by stands and by crews,");
        int byStands = 0;
        for (int s = 0; s < x.count(1); s++) byStands += x.ofStand(s, 9);
        int byCrews = 0;
        int costs = 0;
        for (int c = 0; c < x.count(2); c++) {
            byCrews += x.ofCrew(c, 3);
            costs += x.ofCrew(c, 4);
        }
        due("crew hours", byStands, byCrews);
        due("all costs", x.count(13), costs);
    }

    private void anotherCrew() {
        holdsOf("another crew,");
        int hours = x.withCrew(3);
        x.crew(3, 9);
        due("hours with it", x.allIn(), hours);
        x.undo();
    }

    private void waiting() {
        holdsOf("who waits for what,");
        int[] inState = new int[7];
        for (int s = 0; s < x.count(1); s++) {
            int state = x.ofStand(s, 4);
            inState[state]++;
            int reason = x.waitsFor(s);
            boolean free = state == READY && reason == 4 || state == BUILT && reason == 4;
            if (free) for (int c = 0; c < x.count(2); c++) due("crew " + c + " of free stand " + s, isBusyOrJustFree(c), 1);
            if (state == TOLD || state == AT_DOCK) due("stand " + s, reason, state + 1);
            if (state == READY && reason == 3) due("base of " + s, x.ofStand(x.ofStand(s, 3), 4) == BUILT ? 1 : 0, 0);
            if (state == BUILT && reason == 5) due("on " + s, x.ofStand(s, 8) != 0 && x.count(11) == 1 ? 1 : 0, 1);
        }
        for (int state = 0; state < 7; state++) due("stands that are " + state, x.count(3 + state), inState[state]);
    }

    /** Behind an hour a stand still waits for a crew only if each crew worked in it, or the stand came free in it. */
    private int isBusyOrJustFree(int crew) {
        return x.ofCrew(crew, 2) != NONE || someFinished() ? 1 : 0;
    }

    private boolean someFinished() {
        for (int s = 0; s < statesBefore.length; s++) {
            int state = x.ofStand(s, 4);
            if (state != statesBefore[s] && (state == BUILT || state == GONE)) return true;
        }
        return false;
    }
}
