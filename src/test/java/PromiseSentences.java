/** The sentences of the promises that name a boundary case, each with the calls that hold it. */
final class PromiseSentences extends Sentences {
    private static final String CHANGE = "This is a change.";
    private static final String NUMBER = "Returns the number;";

    private interface Call {
        int on(HallBuilds hall);
    }

    private String promise = "";

    PromiseSentences(Check check, Document document) {
        super(check, document);
    }

    void run() {
        newObject();
        set();
        stand();
        crew();
        end();
        find();
        pass();
        ofStand();
        leftOfStand();
        ofCrew();
        load();
        count();
        waitsFor();
        allIn();
        withCrew();
        leastDock();
        put();
        wipe();
        fault();
        carryOut();
        undo();
        save();
        restore();
    }

    private void promise(int number, String words) {
        promise = "Promise " + number;
        holds(promise, words);
    }

    private void holds(String words) {
        holds(promise, words);
    }

    /** The call records one state, and undo brings it back. */
    private void isChange(String what, Call call) {
        // So that the state before the call is no new hall.
        x.set(PHASE, 33);
        x.crew(5, 5);
        String before = view(x);
        int changes = x.count(19);
        due(what + " is no error", call.on(x) >= 0 ? 1 : 0, 1);
        int kept = Math.min(changes + 1, 6);
        due(what + " can be undone", x.count(19), kept);
        due(what + " is undone", x.undo(), kept - 1);
        same(what + " undone", view(x), before);
    }

    private void newObject() {
        promise(1, "HallBuilds(): Creates an empty hall.");
        counts("empty", 0, 0, 0, 0, 0, 0, 0, 0, 0, 0, 0, 0, 0, 0, 0, 0, 20, 2, 60, 0, 0);
        for (int phase = 0; phase < 3; phase++) due("load", x.load(phase), 0);
        due("no stand", x.ofStand(0, 0), NO_SUCH);
        due("no crew", x.ofCrew(0, 0), NO_SUCH);
        due("nothing to undo", x.undo(), NOT_POSSIBLE);
        due("nothing saved in 0", x.restore(0), NOT_POSSIBLE);
        due("nothing saved in 1", x.restore(1), NOT_POSSIBLE);
        due("the pad ends too early", x.fault(), 0);
        HallBuilds other = new HallBuilds();
        other.stand(1, 1, 1, NONE);
        other.put('e');
        other.save(0);
        counts("another hall leaves it alone", 0, 0, 0, 0, 0, 0, 0, 0, 0, 0, 0, 0, 0, 0, 0, 0, 20, 2, 60, 0, 0);
        due("and its slots", x.restore(0), NOT_POSSIBLE);
    }

    private void set() {
        promise(2, "int set(int setting, int value): Changes a setting (what is at the dock, and on phases, stays).");
        x.stand(1, 20, 60, NONE);
        x.stand(1, 20, 0, NONE);
        x.crew(9, 0);
        x.pass(3);
        x.set(DOCK, 1);
        x.set(PHASE, 1);
        x.set(UNLOAD, 1);
        counts("settings", 15, 1, 1, 1);
        due("the load stays", x.load(0), 60);
        due("on its phase", x.ofStand(0, 6), 0);
        due("at the dock", x.count(10), 20);
        x.pass(1);
        states("for the hours of when it came", BUILT, AT_DOCK);

        holds(CHANGE);
        isChange("set", hall -> hall.set(DOCK, 60));
        isChange("set to what it is", hall -> hall.set(UNLOAD, 2));

        holds("Returns the previous value;");
        due("the first one", x.set(PHASE, 999), 60);
        due("the greatest", x.set(PHASE, 1), 999);
        due("the least", x.set(PHASE, 1), 1);
        due("the others stay", x.set(UNLOAD, 9), 2);

        holds("BAD_VALUE if there is no such setting, or the value is out of its range.");
        for (int setting : new int[] {-1, 3, LEAST, MOST}) due("setting " + setting, x.set(setting, 1), BAD_VALUE);
        int[] most = {60, 9, 999};
        for (int setting = 0; setting < 3; setting++) {
            for (int value : new int[] {0, -1, most[setting] + 1, LEAST, MOST}) {
                due("value " + value + " of " + setting, x.set(setting, value), BAD_VALUE);
            }
        }
        counts("none has changed", 15, 20, 2, 60, 0, 0);
    }

    private void stand() {
        promise(3, "int stand(int hours, int length, int power, int base): A stand comes.");
        x.stand(1, 1, 1, NONE);
        due("stands", x.count(1), 1);
        states("told", TOLD);

        holds(CHANGE);
        isChange("stand", hall -> hall.stand(9, 9, 9, NONE));

        holds("hours: 1 to 99");
        due("0", x.stand(0, 1, 1, NONE), BAD_VALUE);
        due("1", x.stand(1, 1, 1, NONE), 0);
        due("99", x.stand(99, 1, 1, NONE), 1);
        due("100", x.stand(100, 1, 1, NONE), BAD_VALUE);

        holds("length: 1 to 20");
        due("0", x.stand(1, 0, 1, NONE), BAD_VALUE);
        due("1", x.stand(1, 1, 1, NONE), 0);
        due("20", x.stand(1, 20, 1, NONE), 1);
        due("21", x.stand(1, 21, 1, NONE), BAD_VALUE);

        holds("power: 0 to 99");
        due("-1", x.stand(1, 1, -1, NONE), BAD_VALUE);
        due("0", x.stand(1, 1, 0, NONE), 0);
        due("99", x.stand(1, 1, 99, NONE), 1);
        due("100", x.stand(1, 1, 100, NONE), BAD_VALUE);

        holds("base: a stand that is not gone, or NONE");
        due("NONE", x.stand(1, 1, 0, NONE), 0);
        due("one that is told", x.stand(1, 1, 0, 0), 1);
        x.crew(1, 0);
        x.pass(3);
        due("one that is built", x.stand(1, 1, 0, 0), 2);
        due("the one base of many", x.ofStand(0, 8), 6);

        holds("Returns its number;");
        for (int s = 0; s < 20; s++) due("number", x.stand(1, 1, 1, s == 0 ? NONE : 0), s);

        holds("BAD_VALUE if hours, length or power is out of range;");
        for (int far : new int[] {LEAST, -1, 100, 128, 257, MOST}) {
            due("hours " + far, x.stand(far, 1, 1, NONE), BAD_VALUE);
            due("length " + far, x.stand(1, far, 1, NONE), BAD_VALUE);
            due("power " + far, x.stand(1, 1, far, NONE), BAD_VALUE);
        }

        holds("NO_SUCH if there is no such base;");
        due("no stand yet", x.stand(1, 1, 1, 0), NO_SUCH);
        stands(2);
        for (int base : new int[] {2, 19, 20, -1, -2, -3, -4, -5, -7, LEAST, MOST}) {
            due("base " + base, x.stand(1, 1, 1, base), NO_SUCH);
        }

        holds("TOO_MANY if there are 20 stands;");
        stands(19);
        due("the 20th", x.stand(1, 1, 1, NONE), 19);
        due("the 21st", x.stand(1, 1, 1, NONE), TOO_MANY);
        due("on a base", x.stand(1, 1, 1, 19), TOO_MANY);
        due("20", x.count(1), 20);

        holds("NOT_POSSIBLE if the fair has ended, or the base is gone.");
        stands(1);
        x.end();
        due("ended", x.stand(1, 1, 1, NONE), NOT_POSSIBLE);
        due("gone", x.stand(1, 1, 1, 0), NOT_POSSIBLE);
        x = new HallBuilds();
        x.crew(9, 0);
        stands(1);
        x.pass(3);
        x.end();
        due("ended, the base is built", x.stand(1, 1, 1, 0), NOT_POSSIBLE);
        x.pass(1);
        due("gone by being dismantled", x.stand(1, 1, 1, 0), NOT_POSSIBLE);
        x.undo();
        x.undo();
        due("not ended any more", x.stand(1, 1, 1, 0), 1);
    }

    private void crew() {
        promise(4, "int crew(int speed, int rate): A crew comes.");
        x.crew(3, 4);
        due("crews", x.count(2), 1);
        due("it has no stand", x.ofCrew(0, 2), NONE);

        holds(CHANGE);
        isChange("crew", hall -> hall.crew(9, 9));

        holds("speed: 1 to 9");
        due("0", x.crew(0, 0), BAD_VALUE);
        due("1", x.crew(1, 0), 0);
        due("9", x.crew(9, 0), 1);
        due("10", x.crew(10, 0), BAD_VALUE);

        holds("rate: 0 to 99");
        due("-1", x.crew(1, -1), BAD_VALUE);
        due("0", x.crew(1, 0), 0);
        due("99", x.crew(1, 99), 1);
        due("100", x.crew(1, 100), BAD_VALUE);

        holds("Returns its number; BAD_VALUE if an argument is out of range; TOO_MANY if there are 6 crews.");
        for (int far : new int[] {LEAST, -1, 100, MOST}) {
            due("speed " + far, x.crew(far, 1), BAD_VALUE);
            due("rate " + far, x.crew(1, far), BAD_VALUE);
        }
        for (int c = 0; c < 6; c++) due("number", x.crew(1, 1), c);
        due("the seventh", x.crew(1, 1), TOO_MANY);
        due("six", x.count(2), 6);
        x.undo();
        x.end();
        due("one may come behind the end", x.crew(1, 1), 5);
    }

    private void end() {
        promise(5, "int end(): The fair ends.");
        due("not yet", x.count(11), 0);
        x.end();
        due("ended", x.count(11), 1);

        holds(CHANGE);
        x.crew(4, 0);
        x.stand(9, 20, 1, NONE);
        x.stand(9, 20, 1, NONE);
        x.pass(3);
        states("before", BUILDING, AT_DOCK);
        isChange("end", HallBuilds::end);
        x = new HallBuilds();
        isChange("end of an empty fair", HallBuilds::end);

        holds("Returns how many stands are gone at once;");
        due("none of none", x.end(), 0);
        x = new HallBuilds();
        stands(20);
        due("all 20", x.end(), 20);
        x = new HallBuilds();
        stands(2);
        x.crew(1, 0);
        x.pass(3);
        due("but the one that is built", x.end(), 1);
        x.undo();
        x.pass(1);
        due("none, as both are built", x.end(), 0);

        holds("NOT_POSSIBLE if it has ended.");
        x.end();
        due("again", x.end(), NOT_POSSIBLE);
        x.pass(9);
        due("later", x.end(), NOT_POSSIBLE);
        due("changes", x.count(19), 2);
        x.undo();
        x.undo();
        due("undone", x.end(), 0);
    }

    /** Stands 4 down to 0 are dismantled in hours 8 to 12: five things are lost. */
    private void fiveLost() {
        x.crew(9, 0);
        stands(5);
        x.pass(8);
        x.end();
        x.pass(5);
    }

    private void find() {
        promise(6, "int find(): What was lost is found: one thing less.");
        fiveLost();
        due("lost", x.count(12), 5);
        x.find();
        due("one less", x.count(12), 4);

        holds(CHANGE);
        fiveLost();
        isChange("find", HallBuilds::find);

        holds("Returns how many things are lost then; NOT_POSSIBLE if nothing is lost.");
        due("nothing", x.find(), NOT_POSSIBLE);
        fiveLost();
        for (int more = 4; more >= 0; more--) due("then", x.find(), more);
        due("nothing any more", x.find(), NOT_POSSIBLE);
        due("still none", x.count(12), 0);
    }

    private void pass() {
        promise(7, "int pass(int hours): Lets hours pass.");
        x.pass(7);
        due("seven", x.count(0), 7);

        holds(CHANGE);
        x.crew(1, 0);
        x.stand(3, 1, 1, NONE);
        isChange("pass", hall -> hall.pass(99));
        x = new HallBuilds();
        isChange("an hour in which nothing is done", hall -> hall.pass(1));

        holds("hours: 1 to 99");
        due("0", x.pass(0), BAD_VALUE);
        due("1", x.pass(1), 0);
        due("99", x.pass(99), 0);
        due("100", x.pass(100), BAD_VALUE);
        for (int far : new int[] {LEAST, -1, MOST}) due("far", x.pass(far), BAD_VALUE);
        due("hours", x.count(0), 100);

        holds("Returns how many stands are built or dismantled in them;");
        x.crew(1, 0);
        x.crew(1, 0);
        stands(3);
        due("not ready", x.pass(2), 0);
        due("two at once", x.pass(1), 2);
        due("the third", x.pass(9), 1);
        x.stand(9, 1, 1, NONE);
        x.end();
        due("two dismantled", x.pass(1), 2);
        due("one more; the one that was gone at once is none", x.pass(99), 1);
        due("no more", x.pass(99), 0);
        x = new HallBuilds();
        x.crew(9, 0);
        stands(20);
        due("all in one call", x.pass(22), 20);

        holds("BAD_VALUE if hours is out of range; NOT_POSSIBLE if there would be more than 9999 hours.");
        goTo(9900);
        due("to 9999", x.pass(99), 0);
        due("hours", x.count(0), 9999);
        due("one more", x.pass(1), NOT_POSSIBLE);
        due("99 more", x.pass(99), NOT_POSSIBLE);
        due("a wrong number", x.pass(100), BAD_VALUE);
        x.undo();
        x.pass(1);
        due("to 10000", x.pass(99), NOT_POSSIBLE);
        due("hours stay", x.count(0), 9901);
        due("to 9999", x.pass(98), 0);
    }

    private void ofStandIs(String when, int stand, int... wanted) {
        for (int what = 0; what < wanted.length; what++) due(when + ", what " + what, x.ofStand(stand, what), wanted[what]);
    }

    private void ofStand() {
        promise(8, "int ofStand(int stand, int what): Returns something about a stand.");
        holdsToo(promise, "what: 0 its hours, 1 the length of its lorry, 2 its power, 3 its base (NONE), 4 how it is, 0 to 6,");
        x.stand(10, 20, 35, NONE);
        x.stand(7, 1, 99, 0);
        ofStandIs("the first", 0, 10, 20, 35, NONE, TOLD);
        ofStandIs("on a base", 1, 7, 1, 99, 0, TOLD);
        x.end();
        ofStandIs("gone", 1, 7, 1, 99, 0, GONE);

        holds("6 the phase that it is on (NONE),");
        x.stand(1, 1, 60, NONE);
        x.stand(1, 1, 61, NONE);
        x.crew(9, 0);
        due("told", x.ofStand(0, 6), NONE);
        x.pass(4);
        due("built", x.ofStand(0, 6), 0);
        due("built without power", x.ofStand(1, 6), NONE);
        x.end();
        x.pass(2);
        due("gone", x.ofStand(0, 6), NONE);

        holds("7 the crew that works on it (NONE),");
        x.stand(2, 1, 0, NONE);
        x.crew(1, 0);
        x.crew(1, 0);
        due("told", x.ofStand(0, 7), NONE);
        x.pass(3);
        due("being built", x.ofStand(0, 7), 0);
        x.pass(1);
        due("built", x.ofStand(0, 7), NONE);
        x.stand(3, 1, 0, NONE);
        x.stand(3, 1, 0, NONE);
        x.pass(3);
        due("by the second one", x.ofStand(2, 7), 1);
        x.end();
        due("gone", x.ofStand(2, 7), NONE);

        holds("8 the stands that stand on it and are not gone, as a set,");
        x.crew(1, 0);
        x.stand(1, 1, 0, NONE);
        x.stand(1, 1, 0, 0);
        x.stand(4, 1, 0, 0);
        x.stand(9, 1, 0, 2);
        due("told ones too", x.ofStand(0, 8), 6);
        due("not what stands on those", x.ofStand(2, 8), 8);
        due("nothing", x.ofStand(3, 8), 0);
        x.pass(9);
        states("the last one is being built", BUILT, BUILT, BUILT, BUILDING);
        x.end();
        due("gone at once", x.ofStand(2, 8), 0);
        x.pass(1);
        due("being dismantled is not gone", x.ofStand(0, 8), 6);
        x.pass(1);
        due("dismantled", x.ofStand(0, 8), 2);
        x.pass(1);
        due("both", x.ofStand(0, 8), 0);

        holds("9 crew hours that were spent on it so far");
        x.stand(10, 1, 0, NONE);
        x.crew(9, 0);
        due("told", x.ofStand(0, 9), 0);
        x.pass(3);
        due("one", x.ofStand(0, 9), 1);
        x.pass(9);
        due("an hour with less work is one", x.ofStand(0, 9), 2);
        x.end();
        x.pass(1);
        due("dismantling too", x.ofStand(0, 9), 3);

        holds(NUMBER);
        holdsToo(promise, "NO_SUCH if there is no such stand; BAD_VALUE if what is out of range.");
        due("none yet", x.ofStand(0, 0), NO_SUCH);
        stands(1);
        due("the first", x.ofStand(0, 0), 1);
        for (int stand : new int[] {-1, 1, 19, 20, LEAST, MOST}) due("stand " + stand, x.ofStand(stand, 0), NO_SUCH);
        for (int what : new int[] {-1, 10, LEAST, MOST}) due("what " + what, x.ofStand(0, what), BAD_VALUE);
        due("the last what", x.ofStand(0, 9), 0);
        x.undo();
        due("undone", x.ofStand(0, 0), NO_SUCH);
    }

    private void leftOfStand() {
        promise(8, "5 the hours of work that are left for what is done with it now (all of them if that has not begun; 0 for one that"
            + " is built or gone),");
        x.crew(9, 0);
        x.stand(20, 20, 0, NONE);
        x.stand(30, 20, 0, NONE);
        due("told", x.ofStand(0, 5), 20);
        x.pass(1);
        due("at the dock", x.ofStand(0, 5), 20);
        x.pass(2);
        due("being built", x.ofStand(0, 5), 11);
        x.pass(1);
        due("two more", x.ofStand(0, 5), 2);
        x.pass(1);
        due("built", x.ofStand(0, 5), 0);
        states("and the other one ready", BUILT, READY);
        due("ready", x.ofStand(1, 5), 30);
        x.end();
        due("built, and the fair has ended", x.ofStand(0, 5), 0);
        due("gone at once", x.ofStand(1, 5), 0);
        x.pass(1);
        due("being dismantled", x.ofStand(0, 5), 1);
        x.pass(1);
        due("gone", x.ofStand(0, 5), 0);
    }

    private void ofCrewIs(String when, int crew, int... wanted) {
        for (int what = 0; what < wanted.length; what++) due(when + ", what " + what, x.ofCrew(crew, what), wanted[what]);
    }

    private void ofCrew() {
        promise(9, "int ofCrew(int crew, int what): Returns something about a crew.");
        holdsToo(promise, "what: 0 its speed, 1 its rate, 2 the stand that it has (NONE), 3 its hours so far, 4 what it cost so far,"
            + " 5 stands that it built so far, 6 that it dismantled so far");
        x.crew(9, 99);
        x.crew(2, 5);
        x.stand(5, 1, 0, NONE);
        x.stand(5, 1, 0, NONE);
        ofCrewIs("new", 0, 9, 99, NONE, 0, 0, 0, 0);
        x.pass(4);
        ofCrewIs("done", 0, 9, 99, NONE, 1, 99, 1, 0);
        ofCrewIs("at work", 1, 2, 5, 1, 2, 10, 0, 0);
        x.end();
        ofCrewIs("its stand is gone, its hours stay", 1, 2, 5, NONE, 2, 10, 0, 0);
        x.pass(1);
        ofCrewIs("dismantled", 0, 9, 99, NONE, 2, 198, 1, 1);
        ofCrewIs("nothing to do", 1, 2, 5, NONE, 2, 10, 0, 0);

        holds(NUMBER);
        holdsToo(promise, "NO_SUCH if there is no such crew; BAD_VALUE if what is out of range.");
        due("none yet", x.ofCrew(0, 0), NO_SUCH);
        crews(1);
        due("the first", x.ofCrew(0, 0), 1);
        for (int crew : new int[] {-1, 1, 5, 6, LEAST, MOST}) due("crew " + crew, x.ofCrew(crew, 0), NO_SUCH);
        for (int what : new int[] {-1, 7, LEAST, MOST}) due("what " + what, x.ofCrew(0, what), BAD_VALUE);
        due("the last what", x.ofCrew(0, 6), 0);
        x.withCrew(9);
        due("one of a what-if is none", x.ofCrew(1, 0), NO_SUCH);
        x.undo();
        due("undone", x.ofCrew(0, 0), NO_SUCH);
    }

    private void load() {
        promise(10, "int load(int phase): Returns the load of a phase.");
        holdsToo(promise, "Returns the load; NO_SUCH if there is no such phase.");
        for (int phase = 0; phase < 3; phase++) due("new", x.load(phase), 0);
        for (int phase : new int[] {-1, 3, LEAST, MOST}) due("phase " + phase, x.load(phase), NO_SUCH);
        x.set(PHASE, 999);
        for (int s = 0; s < 20; s++) x.stand(1, 1, 99, NONE);
        x.crew(9, 0);
        x.pass(22);
        int[] loads = {7 * 99, 7 * 99, 6 * 99};
        for (int phase = 0; phase < 3; phase++) due("20 stands of 99", x.load(phase), loads[phase]);
        x.end();
        x.pass(20);
        for (int phase = 0; phase < 3; phase++) due("all gone", x.load(phase), 0);
    }

    private void count() {
        promise(11, "int count(int what): Returns a number.");
        holdsToo(promise, "what: 0 hours so far, 1 stands, 2 crews, 3 to 9 stands that are 0 to 6, 10 meters of the dock that are taken,"
            + " 11 whether the fair has ended (1 or 0), 12 things that are lost, 13 all costs,");
        x.set(UNLOAD, 3);
        x.crew(4, 10);
        x.crew(1, 3);
        x.stand(4, 5, 10, NONE);
        x.stand(9, 5, 10, NONE);
        x.stand(9, 5, 10, 1);
        x.stand(9, 15, 10, NONE);
        x.stand(9, 20, 10, NONE);
        x.pass(4);
        counts("all but 5 and 6", 0, 4, 5, 2, 1, 1, 1, 1, 1, 0, 0, 15, 0, 0, 13);
        x.end();
        counts("ended", 0, 4, 5, 2, 0, 0, 0, 0, 1, 0, 4, 0, 1, 0, 13);
        x.pass(1);
        // Number 0 in hour 4.
        counts("dismantled", 0, 5, 5, 2, 0, 0, 0, 0, 0, 0, 5, 0, 1, 1, 23);
        x = new HallBuilds();
        x.crew(1, 1);
        x.stand(6, 1, 1, NONE);
        x.pass(8);
        x.end();
        x.pass(1);
        counts("being dismantled", 3, 0, 0, 0, 0, 0, 1, 0, 0, 1, 0, 7);
        x = new HallBuilds();
        crews(2);
        for (int s = 0; s < 6; s++) x.stand(s == 0 ? 1 : 99, 1, 0, NONE);
        x.pass(4);
        for (int s = 6; s < 15; s++) x.stand(99, 5, 0, NONE);
        x.pass(1);
        counts("another number of each", 3, 5, 4, 3, 2, 1, 0, 0, 20);

        holds("14 stands that are built and without power (of those with a power above 0),");
        x.set(PHASE, 1);
        x.crew(9, 0);
        x.stand(1, 1, 2, NONE);
        x.stand(1, 1, 0, NONE);
        x.stand(1, 1, 1, NONE);
        x.stand(12, 1, 2, NONE);
        due("told", x.count(14), 0);
        x.pass(5);
        due("only the one of 2", x.count(14), 1);
        x.pass(1);
        due("being built", x.count(14), 1);
        x.pass(1);
        due("built", x.count(14), 2);
        x.set(PHASE, 999);
        due("none later", x.count(14), 2);
        x.end();
        due("behind the end too", x.count(14), 2);
        x.pass(1);
        due("not one that is dismantled", x.count(14), 1);
        x = new HallBuilds();
        x.set(PHASE, 1);
        x.crew(1, 0);
        x.stand(4, 1, 2, NONE);
        x.pass(6);
        due("one of 4 hours", x.count(14), 1);
        x.end();
        x.pass(1);
        due("being dismantled is not built", x.count(14), 0);
        x = new HallBuilds();
        powersThenLowered();
        due("a power of 0 without a phase", x.count(14), 0);

        holds("15 to 17 the settings,");
        counts("first", 15, 20, 2, 60);
        x.set(DOCK, 60);
        x.set(UNLOAD, 9);
        x.set(PHASE, 999);
        counts("changed", 15, 60, 9, 999);

        holds("18 the length of the pad,");
        due("empty", x.count(18), 0);
        x.put(Check.packed("e;e"));
        due("three", x.count(18), 3);
        x.put(Check.packed(";e;e;e;e"));
        due("eleven", x.count(18), 11);
        x.carryOut();
        due("emptied", x.count(18), 0);

        holds("19 how many changes can be undone");
        for (int changes = 0; changes < 9; changes++) {
            due("behind " + changes, x.count(19), Math.min(changes, 6));
            x.pass(1);
        }

        holds(NUMBER);
        holdsToo(promise, "BAD_VALUE if what is out of range.");
        for (int what : new int[] {-1, 20, LEAST, MOST}) due("what " + what, x.count(what), BAD_VALUE);
        for (int what = 0; what < 15; what++) due("what " + what, x.count(what), 0);
        due("what 19", x.count(19), 0);
    }

    /** Three phases with a load of 9, and then a stand with a power of 0 that finds no room there. */
    private void powersThenLowered() {
        x.set(PHASE, 9);
        for (int s = 0; s < 3; s++) x.stand(1, 1, 9, NONE);
        x.stand(1, 1, 0, NONE);
        x.crew(9, 0);
        x.pass(5);
        x.set(PHASE, 1);
        x.pass(1);
        due("it is built", x.ofStand(3, 4), BUILT);
        due("on no phase", x.ofStand(3, 6), NONE);
    }

    private void waitsFor() {
        promise(12, "int waitsFor(int stand): Tells for what a stand waits.");
        holdsToo(promise, "Returns 0 for nothing (it is being worked on, gone, or built while the fair has not ended);");
        x.crew(1, 0);
        x.stand(4, 1, 0, NONE);
        x.stand(9, 1, 0, NONE);
        x.pass(3);
        due("being built", x.waitsFor(0), 0);
        x.pass(3);
        due("built while the fair has not ended", x.waitsFor(0), 0);
        x.end();
        due("gone at once", x.waitsFor(1), 0);
        x.pass(1);
        due("being dismantled", x.waitsFor(0), 0);
        x.pass(1);
        due("gone", x.waitsFor(0), 0);
        x = new HallBuilds();
        x.crew(1, 0);
        x.stand(1, 1, 0, NONE);
        x.stand(9, 1, 0, 0);
        x.pass(4);
        due("built, with one on it, while the fair has not ended", x.waitsFor(0), 0);

        holds("1 for the dock; 2 for being unloaded;");
        stands(1);
        due("told", x.waitsFor(0), 1);
        x.pass(1);
        due("at the dock", x.waitsFor(0), 2);
        x.pass(1);
        due("its last hour there", x.waitsFor(0), 2);
        x.pass(1);
        due("no more", x.waitsFor(0), 4);

        holds("3 for its base; 4 for a crew;");
        x.stand(2, 1, 0, NONE);
        x.stand(1, 1, 0, 0);
        x.stand(1, 1, 0, NONE);
        x.pass(3);
        due("ready, no base", x.waitsFor(0), 4);
        due("the base is ready alone", x.waitsFor(1), 3);
        x.crew(1, 0);
        x.pass(1);
        due("the base is being built", x.waitsFor(1), 3);
        x.pass(1);
        due("the base is built", x.waitsFor(1), 4);
        due("no base", x.waitsFor(2), 4);
        x.end();
        due("built, behind the end, nothing on it", x.waitsFor(0), 4);

        holds("5 for stands that stand on it;");
        x.crew(1, 0);
        x.stand(1, 1, 0, NONE);
        x.stand(4, 1, 0, 0);
        x.pass(7);
        states("built", BUILT, BUILT);
        x.end();
        due("one that is built", x.waitsFor(0), 5);
        due("the one on it", x.waitsFor(1), 4);
        x.pass(1);
        due("one that is being dismantled", x.waitsFor(0), 5);
        x.pass(1);
        due("one that is gone", x.waitsFor(0), 4);
        x = new HallBuilds();
        x.crew(9, 0);
        x.stand(1, 1, 0, NONE);
        x.stand(1, 20, 0, 0);
        x.pass(3);
        x.end();
        due("one that was gone at once", x.waitsFor(0), 4);

        holds("NO_SUCH if there is no such stand.");
        due("none yet", x.waitsFor(0), NO_SUCH);
        stands(2);
        for (int stand : new int[] {-1, 2, 20, NONE, LEAST, MOST}) due("stand " + stand, x.waitsFor(stand), NO_SUCH);
    }

    /** Work for a crew of speed 1 that takes this many hours, with the two at the dock. */
    private void work(int hours) {
        for (int rest = hours - 2; rest > 0; rest -= Math.min(rest, 99)) x.stand(Math.min(rest, 99), 1, 0, NONE);
    }

    private void allIn() {
        promise(13, "int allIn(): Tells in how many hours all stands that there are will be built or gone, if only time passes (behind"
            + " the end of the fair: gone).");
        x.crew(2, 0);
        x.stand(5, 20, 0, NONE);
        x.stand(3, 20, 0, 0);
        // 0 is built in hours 2 to 4; 1 is ready in hour 4 and built in hours 5 and 6.
        due("both", x.allIn(), 7);
        x.pass(6);
        due("an hour more", x.allIn(), 1);
        x.pass(1);
        due("built", x.allIn(), 0);
        x.end();
        // Half of 3 is 2, an hour; half of 5 is 3, two hours.
        due("behind the end: gone", x.allIn(), 3);
        x.pass(1);
        due("one is gone", x.allIn(), 2);
        x.pass(1);
        due("being dismantled", x.allIn(), 1);
        x.pass(1);
        due("gone", x.allIn(), 0);

        holds("Returns how many (0 if they are);");
        due("no stand", x.allIn(), 0);
        stands(1);
        due("told", x.allIn(), NONE);
        x.crew(1, 0);
        due("with a crew", x.allIn(), 3);
        x.end();
        due("gone at once", x.allIn(), 0);

        holds("NONE if it takes more than 1000.");
        x.crew(1, 0);
        work(1000);
        due("1000", x.allIn(), 1000);
        x.stand(1, 1, 0, NONE);
        due("1001", x.allIn(), NONE);
        x.pass(1);
        due("1000 again", x.allIn(), 1000);
        x = new HallBuilds();
        crews(6);
        x.stand(1, 20, 0, NONE);
        x.set(DOCK, 19);
        due("never", x.allIn(), NONE);
        x = new HallBuilds();
        x.crew(1, 0);
        for (int s = 0; s < 20; s++) x.stand(99, 1, 0, NONE);
        goTo(1982);
        x.end();
        due("20 times 50 hours to dismantle all", x.allIn(), 1000);
        x = new HallBuilds();
        x.crew(1, 0);
        x.set(UNLOAD, 9);
        for (int s = 0; s < 11; s++) x.stand(s == 0 ? 1 : 99, 1, 0, NONE);
        due("9 hours at the dock, 991 of work", x.allIn(), 1000);
        x.set(DOCK, 9);
        x.stand(1, 20, 0, NONE);
        due("one that has no room at the dock", x.allIn(), NONE);
    }

    private void withCrew() {
        promise(14, "int withCrew(int speed): Tells in how many hours that would be with another crew of a speed, that came now.");
        x.stand(6, 1, 0, NONE);
        x.stand(6, 1, 0, NONE);
        for (int speed = 1; speed <= 9; speed++) {
            int[] wanted = {14, 8, 6, 6, 6, 4, 4, 4, 4};
            due("alone with speed " + speed, x.withCrew(speed), wanted[speed - 1]);
        }
        x.crew(1, 0);
        due("behind the other, which takes the first", x.withCrew(9), 8);
        x.pass(2);
        due("now", x.withCrew(9), 6);
        x.pass(1);
        due("with one at work", x.withCrew(1), 6);
        x.pass(11);
        x.end();
        due("to dismantle", x.withCrew(1), 3);
        due("no crew has come", x.count(2), 1);
        x = new HallBuilds();
        x.set(UNLOAD, 1);
        x.crew(9, 0);
        x.stand(81, 1, 0, NONE);
        x.pass(1);
        x.set(UNLOAD, 9);
        x.stand(90, 1, 0, NONE);
        x.pass(1);
        x.set(UNLOAD, 1);
        x.stand(9, 1, 0, NONE);
        x.pass(8);
        states("crew 0 is done, 1 leaves the dock in the next hour", BUILT, AT_DOCK, READY);
        due("they take stands in the next hour, and not before", x.withCrew(1), 10);

        holds("speed: 1 to 9");
        due("0", x.withCrew(0), BAD_VALUE);
        due("1", x.withCrew(1), 0);
        due("9", x.withCrew(9), 0);
        due("10", x.withCrew(10), BAD_VALUE);

        holds("Returns how many; BAD_VALUE if speed is out of range; TOO_MANY if there are 6 crews;");
        for (int far : new int[] {LEAST, -1, MOST}) due("speed " + far, x.withCrew(far), BAD_VALUE);
        crews(5);
        due("the sixth", x.withCrew(9), 0);
        crews(1);
        due("the seventh", x.withCrew(9), TOO_MANY);
        x.undo();
        stands(1);
        due("how many", x.withCrew(9), 3);

        holds("NONE if it takes more than 1000.");
        work(1000);
        due("1000", x.withCrew(1), 1000);
        x.stand(1, 1, 0, NONE);
        due("1001", x.withCrew(1), NONE);
        due("half of it", x.withCrew(2), 2 + 10 * 50 + 4 + 1);
    }

    private void leastDock() {
        promise(15, "int leastDock(): Finds the least DOCK, 1 to 60, by which it would take no more hours than with 60 until all are"
            + " built or gone.");
        due("no stand", x.leastDock(), 1);
        x.crew(9, 0);
        x.stand(9, 20, 0, NONE);
        due("the longest lorry", x.leastDock(), 20);
        x.stand(9, 20, 0, NONE);
        // One lorry at a time: the second stand is ready in hour 4, and not in 2, while its crew is free in hour 3.
        due("two of them", x.leastDock(), 40);
        x.stand(9, 20, 0, NONE);
        due("three of them", x.leastDock(), 40);
        x.crew(9, 0);
        x.crew(9, 0);
        due("three crews", x.leastDock(), 60);
        x.pass(1);
        due("one is at the dock", x.leastDock(), 60);
        due("the setting stays", x.count(15), 20);
        x.end();
        due("all gone", x.leastDock(), 1);

        holds("Finds the least DOCK, 1 to 60, by which it would take no more hours than with 60 until all are built or gone.");
        x.crew(9, 0);
        x.crew(1, 0);
        x.stand(9, 10, 0, NONE);
        x.stand(90, 10, 0, NONE);
        // Both ready in hour 2: the slow crew takes 1, 92 hours. One behind the other: the fast crew takes 1 too, 14 hours.
        due("as it is", x.allIn(), 92);
        due("fewer hours with less", x.leastDock(), 10);
        x.set(DOCK, 10);
        due("with that", x.allIn(), 14);
        due("whatever DOCK is now", x.leastDock(), 10);
        x.set(DOCK, 9);
        due("never", x.allIn(), NONE);
        due("even so", x.leastDock(), 10);

        holds("Finds the least DOCK, 1 to 60, by which it would take no more hours than with 60 until all are built or gone.");
        x.crew(2, 0);
        x.crew(5, 0);
        for (int hours : new int[] {1, 14, 20}) x.stand(hours, 15, 0, NONE);
        // 15: crew 0 takes 1 in hour 4, crew 1 takes 2 in hour 6. 30: crew 1 takes 1 in hour 2, crew 0 takes 2 in hour 4.
        // 45: crew 1 takes 1 in hour 2, crew 0 takes 2 in hour 3.
        int[] hours = {11, 14, 13, 13};
        for (int k = 1; k <= 4; k++) {
            x.set(DOCK, 15 * k);
            due("DOCK " + 15 * k, x.allIn(), hours[k - 1]);
        }
        due("not 45, though 30 takes longer than 60", x.leastDock(), 15);

        holds("Returns the setting; NONE if it takes more than 1000 hours with 60.");
        x.crew(1, 0);
        work(1000);
        due("1000", x.leastDock(), 1);
        x.stand(1, 1, 0, NONE);
        due("1001", x.leastDock(), NONE);
        x = new HallBuilds();
        stands(1);
        due("no crew", x.leastDock(), NONE);
    }

    private void put() {
        promise(16, "int put(long characters): Appends characters to the pad.");
        holdsToo(promise, "They are given as a number: its lowest 8 bits are the last character, the next 8 bits the one before, and so on;");
        x.put('t' << 8 | '1');
        x.put('2');
        due("t12", x.carryOut(), 1);
        due("hours", x.count(0), 12);
        x.put(0x74313B7431323B74L);
        x.put(0x3133L);
        due("t1;t12;t13", x.carryOut(), 3);
        due("hours", x.count(0), 38);

        holds("8 bits that are 0 mean that there are no more characters, and everything above them has to be 0, too.");
        for (int bit = 16; bit < 64; bit++) due("bit " + bit, x.put('e' | 1L << bit), BAD_VALUE);
        for (int count = 1; count <= 6; count++) {
            long characters = Check.packed("eeeeee".substring(0, count));
            due("a character above", x.put(characters | (long) 'e' << 8 * count + 8), BAD_VALUE);
        }
        due("the highest bit", x.put('e' | Long.MIN_VALUE), BAD_VALUE);
        due("a 0 as the last one", x.put((long) 'e' << 8), BAD_VALUE);
        due("nothing above", x.put('e'), 1);

        holds("characters: 1 to 8 characters");
        due("0", x.put(0), BAD_VALUE);
        int length = 0;
        for (int count = 1; count <= 8; count++) {
            length += count;
            due("" + count, x.put(Check.packed("abcdefgh".substring(0, count))), length);
        }

        holds("Returns the length of the pad then;");
        due("1", x.put('a'), 1);
        due("9", x.put(Check.packed("abcdefgh")), 9);

        holds("BAD_VALUE if there is no character, a code is not 33 to 126, or a bit above 8 bits that are 0 is not 0;");
        due("no character", x.put(0), BAD_VALUE);
        for (int code = 1; code < 256; code++) {
            boolean fits = code >= 33 && code <= 126;
            due("code " + code, x.put(code), fits ? 1 : BAD_VALUE);
            if (fits) x.wipe();
        }
        x = new HallBuilds();
        for (int place = 0; place < 8; place++) {
            long eight = Check.packed("eeeeeeee") & ~(255L << 8 * place);
            for (int code : new int[] {32, 127, 128, 229, 255}) {
                due(code + " at " + place, x.put(eight | (long) code << 8 * place), BAD_VALUE);
            }
            for (int code : new int[] {33, 126}) {
                due(code + " at " + place, x.put(eight | (long) code << 8 * place), 8);
                x.wipe();
            }
        }

        holds("TOO_MANY if the pad would be longer than 80.");
        for (int k = 1; k <= 9; k++) due("up to 72", x.put(Check.packed("eeeeeeee")), 8 * k);
        due("78", x.put(Check.packed("eeeeee")), 78);
        for (int count = 3; count <= 8; count++) {
            due(count + " more", x.put(Check.packed("eeeeeeee".substring(0, count))), TOO_MANY);
        }
        due("nothing of it is there", x.count(18), 78);
        due("two more", x.put(Check.packed("ee")), 80);
        due("one more", x.put('e'), TOO_MANY);
        x.wipe();
        for (int k = 1; k <= 10; k++) due("ten times eight", x.put(Check.packed("eeeeeeee")), 8 * k);
        due("eight more", x.put(Check.packed("eeeeeeee")), TOO_MANY);
    }

    private void wipe() {
        promise(17, "int wipe(): Empties the pad, and returns the length that it had.");
        due("empty", x.wipe(), 0);
        text("t1;e");
        due("four", x.wipe(), 4);
        due("empty now", x.wipe(), 0);
        due("length", x.count(18), 0);
        due("nothing is left of it", x.fault(), 0);
        text("e;".repeat(40));
        due("80", x.wipe(), 80);
        due("no change", x.count(19), 0);
        text("t2");
        due("only what came then", x.carryOut(), 1);
        due("hours", x.count(0), 2);
    }

    private void fault() {
        promise(18, "int fault(): Returns the fault of the pad, NONE if there is none.");
        due("empty", x.fault(), 0);
        text("t1");
        due("none", x.fault(), NONE);
        x.put(';');
        due("too early", x.fault(), 3);
        x.put('x');
        due("no order", x.fault(), 3);
        due("the pad stays", x.count(18), 4);
        text("d61;e;e;t0;+0,0,0^99;c1$0");
        due("errors of its orders are no faults", x.fault(), NONE);
        due("no change", x.count(19), 0);
    }

    private void carryOut() {
        promise(19, "int carryOut(): Carries the orders of the pad out, one after the other, up to the first one that returns an error,"
            + " and empties the pad.");
        due("all of them", carryOut("t1;t2;t3"), 3);
        due("hours", x.count(0), 6);
        due("emptied", x.count(18), 0);
        due("up to the third", carryOut("t1;t2;t0;t4"), 2);
        due("hours", x.count(0), 9);
        due("emptied", x.count(18), 0);
        due("the first one is wrong", carryOut("d0;t1"), 0);
        due("hours stay", x.count(0), 9);
        due("emptied", x.count(18), 0);
        due("what an order did is there for the next", carryOut("+9,1,1;+9,1,1^0;e;+1,1,1"), 3);
        due("stands", x.count(1), 2);
        due("orders behind the end", carryOut("c1$1;d1;t1;e;t1"), 3);
        due("hours", x.count(0), 10);
        x = new HallBuilds();
        goTo(9998);
        due("more than 9999 hours", carryOut("t1;t1;d1"), 1);
        due("hours", x.count(0), 9999);
        x = new HallBuilds();
        due("a seventh crew", carryOut("c1$1;c1$1;c1$1;c1$1;c1$1;c1$1;c1$1;t1"), 6);
        due("crews", x.count(2), 6);
        due("ten stands", carryOut("+1,1,1;+1,1,1;+1,1,1;+1,1,1;+1,1,1;+1,1,1;+1,1,1;+1,1,1;+1,1,1;+1,1,1"), 10);
        due("nine more", carryOut("+1,1,1;+1,1,1;+1,1,1;+1,1,1;+1,1,1;+1,1,1;+1,1,1;+1,1,1;+1,1,1"), 9);
        due("a 21st stand", carryOut("+1,1,1;+1,1,1;t1"), 1);
        due("stands", x.count(1), 20);

        holds("This is a change (one, with all of them; also if none is carried out).");
        text("t1;+1,1,1;c1$1;e");
        due("four", x.carryOut(), 4);
        due("one change", x.count(19), 1);
        due("undone", x.undo(), 0);
        counts("all of them undone", 0, 0, 0, 0, 0, 0, 0, 0, 0, 0, 0, 0, 0, 0, 0, 0, 20, 2, 60, 0, 0);
        due("none is carried out", carryOut("t0"), 0);
        due("a change too", x.count(19), 1);
        due("a part", carryOut("t5;t0"), 1);
        due("a change too", x.count(19), 2);
        due("undone", x.undo(), 1);
        due("hours", x.count(0), 0);

        holds("Returns how many orders were carried out; BAD_TEXT if the pad has a fault (then it stays).");
        due("an empty pad", x.carryOut(), BAD_TEXT);
        text("t1;t1;");
        due("too early", x.carryOut(), BAD_TEXT);
        due("it stays", x.count(18), 6);
        due("no order is carried out", x.count(0), 0);
        due("no change", x.count(19), 0);
        x.put(Check.packed("t100"));
        due("above 99", x.carryOut(), BAD_TEXT);
        due("it stays", x.count(18), 10);
        due("its fault", x.fault(), 9);
        text("t1;t1;");
        x.put('e');
        due("without a fault", x.carryOut(), 3);
        due("27 orders in 80 characters", carryOut("d1" + ";d2".repeat(26)), 27);
    }

    private void undo() {
        promise(20, "int undo(): Undoes the latest change: everything except the pad, the slots and the history is as it was before it.");
        x.crew(2, 3);
        x.stand(9, 1, 7, NONE);
        x.stand(2, 1, 7, 0);
        x.pass(7);
        states("0 is built", BUILT, READY);
        x.set(DOCK, 11);
        String before = view(x);
        x.pass(9);
        x.undo();
        same("hours", view(x), before);
        x.end();
        x.undo();
        same("the end", view(x), before);
        x.end();
        String behind = view(x);
        x.pass(3);
        states("dismantled", GONE, GONE);
        x.undo();
        same("dismantling", view(x), behind);
        x = new HallBuilds();
        x.stand(1, 1, 1, NONE);
        x.save(1);
        x.put('e');
        due("undone", x.undo(), 0);
        due("the pad stays", x.count(18), 1);
        due("the slot stays", x.restore(1), 1);
        x.pass(1);
        x.carryOut();
        x.undo();
        due("the pad stays empty", x.count(18), 0);
        due("not ended", x.count(11), 0);
        x.save(0);
        x.undo();
        due("what was saved behind the change stays", x.restore(0), 1);
        due("its hours", x.count(0), 1);

        historyOfSix();

        holds("An order of a text records nothing by itself.");
        x.pass(1);
        due("seven", carryOut("t1;t2;t3;t4;t5;t6;t7"), 7);
        due("two", x.count(19), 2);
        x.undo();
        due("hours", x.count(0), 1);

        holds("Returns how many changes can be undone then; NOT_POSSIBLE if there is none.");
        due("none", x.undo(), NOT_POSSIBLE);
        for (int k = 0; k < 3; k++) x.pass(1);
        for (int k = 2; k >= 0; k--) due("then", x.undo(), k);
        due("none any more", x.undo(), NOT_POSSIBLE);
        due("hours", x.count(0), 0);
        x.save(0);
        x.put('e');
        x.wipe();
        x.allIn();
        due("neither of these is a change", x.undo(), NOT_POSSIBLE);
    }

    private void historyOfSix() {
        holds("A history of at most 6 states is kept: each method that is a change, and returns no error, records the state before it"
            + " (also if nothing is different then); when one more is recorded, the oldest one is dropped.");
        for (int hours = 1; hours <= 6; hours++) x.pass(hours);
        due("six", x.count(19), 6);
        for (int left = 5; left >= 0; left--) due("undone", x.undo(), left);
        due("back at the first", x.count(0), 0);
        for (int round = 0; round < 3; round++) {
            for (int hours = 1; hours <= 7; hours++) x.pass(hours);
            int last = x.count(0);
            due("six of seven", x.count(19), 6);
            due("an error records nothing", x.pass(0), BAD_VALUE);
            due("a text with a fault", x.carryOut(), BAD_TEXT);
            due("an empty slot", x.restore(0), NOT_POSSIBLE);
            due("still six", x.count(19), 6);
            int[] passed = {27, 25, 22, 18, 13, 7};
            for (int left = 5; left >= 0; left--) {
                due("undone", x.undo(), left);
                due("hours that are undone", last - x.count(0), passed[left]);
            }
            due("the oldest one is dropped", x.undo(), NOT_POSSIBLE);
        }
        x = new HallBuilds();
        x.set(DOCK, 20);
        due("nothing is different", x.count(19), 1);
        x.save(0);
        x.restore(0);
        due("restored as it is", x.count(19), 2);
        carryOut("t0");
        due("no order", x.count(19), 3);
        due("undone", x.undo(), 2);
        x.pass(1);
        due("another way", x.count(19), 3);
        x.undo();
        x.undo();
        x.undo();
        due("all of them", x.undo(), NOT_POSSIBLE);
    }

    private void save() {
        String saves = "int save(int slot): Saves everything except the pad, the history and the slots in a slot, and overwrites what was"
            + " saved there.";
        promise(21, saves);
        everythingIsSaved(false);
        everythingIsSaved(true);

        holds(saves);
        x.stand(1, 1, 1, NONE);
        x.save(1);
        for (int k = 0; k < 9; k++) x.pass(1);
        x.put('e');
        x.restore(1);
        due("but the pad", x.count(18), 1);
        due("but the history", x.count(19), 6);
        x = new HallBuilds();
        x.save(0);
        x.pass(1);
        x.save(1);
        x.pass(2);
        x.save(0);
        x.restore(1);
        due("the other slot", x.count(0), 1);
        x.restore(0);
        due("overwritten", x.count(0), 3);
        x.pass(5);
        x.restore(0);
        due("what comes behind is not saved", x.count(0), 3);
        x = new HallBuilds();
        x.pass(1);
        x.save(0);
        x.undo();
        due("not a change", x.undo(), NOT_POSSIBLE);

        holds("slot: 0 or 1");
        for (int slot : new int[] {0, 1}) due("slot " + slot, x.save(slot), 0);

        holds("Returns how many stands there are; BAD_VALUE if there is no such slot.");
        due("none", x.save(0), 0);
        stands(19);
        due("19", x.save(0), 19);
        stands(1);
        x.end();
        due("20, gone ones too", x.save(1), 20);
        for (int slot : new int[] {-1, 2, LEAST, MOST}) due("slot " + slot, x.save(slot), BAD_VALUE);
    }

    /** Two stands, two crews, a lorry at the dock; with other numbers, another hall in each thing that can be told. */
    private void twoStands(int other) {
        x.set(DOCK, 20 + other);
        x.set(UNLOAD, 2 + 6 * other);
        x.set(PHASE, 99 + other);
        x.crew(2 + other, 3 + other);
        x.crew(1 + other, 4 + other);
        x.stand(9 + other, 20 - other, 7 + other, NONE);
        x.stand(8 + other, 19 - other, 5 + other, other == 0 ? 0 : NONE);
    }

    private void everythingIsSaved(boolean built) {
        x = new HallBuilds();
        x.save(0);
        twoStands(0);
        x.pass(built ? 12 : 4);
        if (built) x.end();
        if (built) x.pass(1);
        String before = view(x);
        x.save(1);
        x.pass(3);
        String behind = view(x);
        x.restore(0);
        twoStands(1);
        x.pass(30);
        x.end();
        x.pass(1);
        x.restore(1);
        same("everything", view(x), before);
        x.pass(3);
        same("and what comes of it", view(x), behind);
        x.undo();
        same("undone", view(x), before);
        x.undo();
        due("the other hall", x.ofStand(0, 0), 10);
    }

    private void restore() {
        promise(22, "int restore(int slot): Restores what was saved last in a slot, which keeps it.");
        x.pass(1);
        x.save(0);
        x.pass(1);
        x.save(0);
        x.pass(1);
        x.restore(0);
        due("what was saved last", x.count(0), 2);
        x.pass(9);
        x.end();
        x.restore(0);
        due("it is kept", x.count(0), 2);
        due("not ended", x.count(11), 0);
        x.undo();
        x.undo();
        due("ended, undone", x.count(0), 11);
        x.restore(0);
        due("kept also then", x.count(0), 2);

        holds(CHANGE);
        x.save(1);
        stands(2);
        isChange("restore", hall -> hall.restore(1));
        x.save(0);
        isChange("restore of what there is", hall -> hall.restore(0));

        holds("slot: 0 or 1");
        for (int slot : new int[] {0, 1}) {
            x.save(slot);
            due("slot " + slot, x.restore(slot), 0);
        }

        holds("Returns how many stands there are then; BAD_VALUE if there is no such slot; NOT_POSSIBLE if nothing was saved in it.");
        for (int slot : new int[] {0, 1}) due("nothing in " + slot, x.restore(slot), NOT_POSSIBLE);
        for (int slot : new int[] {-1, 2, LEAST, MOST}) due("slot " + slot, x.restore(slot), BAD_VALUE);
        x.save(0);
        due("nothing in the other one", x.restore(1), NOT_POSSIBLE);
        stands(20);
        x.save(1);
        due("none", x.restore(0), 0);
        due("20", x.restore(1), 20);
        for (int slot : new int[] {-1, 2}) due("slot " + slot, x.restore(slot), BAD_VALUE);
    }
}
