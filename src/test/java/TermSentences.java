/** The sentences of the document's terms that name a boundary case, each with the calls that hold it. */
final class TermSentences extends Sentences {
    private static final String TERMS = "Terms";

    private interface Call {
        int on(HallBuilds hall);
    }

    private record Failing(String name, int error, Call call) {
    }

    TermSentences(Check check, Document document) {
        super(check, document);
    }

    void run() {
        callsOfAnObject();
        conventions();
        settings();
        standsThereAre();
        crewsThereAre();
        docks();
        phases();
        anHour();
        theEnd();
        losses();
        texts();
        faults();
        constants();
        whatIfs();
    }

    private void callsOfAnObject() {
        holds("What it is", "An object is used for at most 512 calls after it has been made; what later calls answer is free.");
        for (int call = 1; call <= 511; call++) due("call " + call, x.pass(1), 0);
        due("call 512", x.count(0), 511);
        x = new HallBuilds();
        for (int c = 0; c < 6; c++) x.crew(1, 0);
        for (int s = 0; s < 20; s++) x.stand(99, 20, 99, NONE);
        // With 60 meters the last two begin in hour 299, and so they do if two are ready in hour 2: 40 meters.
        for (int call = 27; call <= 512; call++) due("dear call " + call, x.leastDock(), 40);
    }

    // ---- conventions

    private void conventions() {
        holds(TERMS, "CONVENTIONS. A method that fails returns one of the error codes NO_SUCH (-1), BAD_VALUE (-2), BAD_TEXT (-3),"
            + " TOO_MANY (-4) and NOT_POSSIBLE (-5); it names its errors in the order in which they are checked, and the first"
            + " one that applies is returned.");
        x = fullHall();
        due("stand: all four apply", x.stand(0, 1, 0, 20), BAD_VALUE);
        due("stand: hours and length", x.stand(100, 21, 0, 0), BAD_VALUE);
        due("stand: power before too many", x.stand(1, 1, 100, NONE), BAD_VALUE);
        due("stand: no such base before too many", x.stand(1, 1, 0, 20), NO_SUCH);
        due("stand: too many before the end and a base that is gone", x.stand(1, 1, 0, 0), TOO_MANY);
        due("crew: value before too many", x.crew(0, 0), BAD_VALUE);
        due("crew: rate before too many", x.crew(1, 100), BAD_VALUE);
        due("pass: value before 9999 hours", x.pass(0), BAD_VALUE);
        due("pass: 100 before 9999 hours", x.pass(100), BAD_VALUE);
        due("ofStand: stand before what", x.ofStand(20, 10), NO_SUCH);
        due("ofCrew: crew before what", x.ofCrew(6, 7), NO_SUCH);
        due("withCrew: value before too many", x.withCrew(10), BAD_VALUE);
        due("put: none before too long", x.put(0), BAD_VALUE);
        due("put: code before too long", x.put(127), BAD_VALUE);
        due("put: bit before too long", x.put('e' | 1L << 16), BAD_VALUE);
        due("restore: slot before nothing saved", x.restore(2), BAD_VALUE);
        x = new HallBuilds();
        x.end();
        due("stand: no such base before the end", x.stand(1, 1, 0, 0), NO_SUCH);
        due("stand: value before the end", x.stand(1, 0, 0, NONE), BAD_VALUE);
        errorsChangeNothing();
        noneAndErrors();
        numbersAndSets();
    }

    /** Twenty stands and six crews, ended, all gone, hour 9999, 80 characters on the pad, slot 1 saved. */
    private static HallBuilds fullHall() {
        HallBuilds hall = new HallBuilds();
        for (int c = 0; c < 6; c++) hall.crew(9, 1);
        for (int s = 0; s < 20; s++) hall.stand(1 + s, 1, 5, s == 0 ? NONE : s - 1);
        hall.pass(60);
        hall.end();
        for (int rest = 9999 - 60; rest > 0; rest -= Math.min(rest, 99)) hall.pass(Math.min(rest, 99));
        for (int k = 0; k < 20; k++) hall.find();
        hall.save(1);
        Check.putText(hall, "t1" + ";e".repeat(39));
        return hall;
    }

    /** Stands that are told, at the dock, ready, being built and built, two texts of orders, slot 0 saved. */
    private static HallBuilds busyHall() {
        HallBuilds hall = new HallBuilds();
        hall.crew(4, 10);
        for (int s = 0; s < 3; s++) hall.stand(8, 5, 10, NONE);
        hall.stand(8, 15, 10, 0);
        hall.stand(8, 20, 10, 1);
        hall.set(UNLOAD, 3);
        hall.pass(6);
        hall.save(0);
        Check.putText(hall, "t1;t2");
        return hall;
    }

    private static HallBuilds faultyHall() {
        HallBuilds hall = new HallBuilds();
        hall.stand(1, 1, 1, NONE);
        Check.putText(hall, "t1;");
        return hall;
    }

    private static HallBuilds built(int kind) {
        switch (kind) {
            case 0: return new HallBuilds();
            case 1: return faultyHall();
            case 2: return busyHall();
            default: return fullHall();
        }
    }

    private static final Failing[] FAIL_EVERYWHERE = {
        new Failing("set(-1, 1)", BAD_VALUE, hall -> hall.set(-1, 1)),
        new Failing("set(3, 1)", BAD_VALUE, hall -> hall.set(3, 1)),
        new Failing("set(0, 0)", BAD_VALUE, hall -> hall.set(0, 0)),
        new Failing("set(0, 61)", BAD_VALUE, hall -> hall.set(0, 61)),
        new Failing("set(1, 10)", BAD_VALUE, hall -> hall.set(1, 10)),
        new Failing("set(2, 1000)", BAD_VALUE, hall -> hall.set(2, 1000)),
        new Failing("stand(0, 1, 1, NONE)", BAD_VALUE, hall -> hall.stand(0, 1, 1, NONE)),
        new Failing("stand(1, 21, 1, NONE)", BAD_VALUE, hall -> hall.stand(1, 21, 1, NONE)),
        new Failing("stand(1, 1, -1, NONE)", BAD_VALUE, hall -> hall.stand(1, 1, -1, NONE)),
        new Failing("stand(1, 1, 1, -1)", NO_SUCH, hall -> hall.stand(1, 1, 1, -1)),
        new Failing("stand(1, 1, 1, 20)", NO_SUCH, hall -> hall.stand(1, 1, 1, 20)),
        new Failing("crew(0, 1)", BAD_VALUE, hall -> hall.crew(0, 1)),
        new Failing("crew(1, -1)", BAD_VALUE, hall -> hall.crew(1, -1)),
        new Failing("pass(0)", BAD_VALUE, hall -> hall.pass(0)),
        new Failing("pass(100)", BAD_VALUE, hall -> hall.pass(100)),
        new Failing("ofStand(20, 0)", NO_SUCH, hall -> hall.ofStand(20, 0)),
        new Failing("ofCrew(6, 0)", NO_SUCH, hall -> hall.ofCrew(6, 0)),
        new Failing("load(3)", NO_SUCH, hall -> hall.load(3)),
        new Failing("count(20)", BAD_VALUE, hall -> hall.count(20)),
        new Failing("waitsFor(20)", NO_SUCH, hall -> hall.waitsFor(20)),
        new Failing("withCrew(0)", BAD_VALUE, hall -> hall.withCrew(0)),
        new Failing("put(0)", BAD_VALUE, hall -> hall.put(0)),
        new Failing("put of 32", BAD_VALUE, hall -> hall.put('e' | 32L << 8)),
        new Failing("put of a bit above a 0", BAD_VALUE, hall -> hall.put('e' | 1L << 63)),
        new Failing("find()", NOT_POSSIBLE, hall -> hall.find()),
        new Failing("save(2)", BAD_VALUE, hall -> hall.save(2)),
        new Failing("save(-1)", BAD_VALUE, hall -> hall.save(-1)),
        new Failing("restore(2)", BAD_VALUE, hall -> hall.restore(2)),
        new Failing("restore(-1)", BAD_VALUE, hall -> hall.restore(-1))};

    private static final Failing[] FAIL_IN_NEW = {
        new Failing("carryOut()", BAD_TEXT, hall -> hall.carryOut()),
        new Failing("undo()", NOT_POSSIBLE, hall -> hall.undo()),
        new Failing("restore(0)", NOT_POSSIBLE, hall -> hall.restore(0)),
        new Failing("restore(1)", NOT_POSSIBLE, hall -> hall.restore(1)),
        new Failing("stand(1, 1, 1, 0)", NO_SUCH, hall -> hall.stand(1, 1, 1, 0))};

    private static final Failing[] FAIL_IN_FAULTY = {
        new Failing("carryOut() of t1;", BAD_TEXT, hall -> hall.carryOut())};

    private static final Failing[] FAIL_IN_BUSY = {
        new Failing("restore(1)", NOT_POSSIBLE, hall -> hall.restore(1)),
        new Failing("stand(1, 1, 1, 5)", NO_SUCH, hall -> hall.stand(1, 1, 1, 5))};

    private static final Failing[] FAIL_IN_FULL = {
        new Failing("stand(1, 1, 1, NONE)", TOO_MANY, hall -> hall.stand(1, 1, 1, NONE)),
        new Failing("crew(1, 1)", TOO_MANY, hall -> hall.crew(1, 1)),
        new Failing("withCrew(1)", TOO_MANY, hall -> hall.withCrew(1)),
        new Failing("put('e')", TOO_MANY, hall -> hall.put('e')),
        new Failing("end()", NOT_POSSIBLE, hall -> hall.end()),
        new Failing("pass(1)", NOT_POSSIBLE, hall -> hall.pass(1)),
        new Failing("restore(0)", NOT_POSSIBLE, hall -> hall.restore(0))};

    private static final Failing[][] FAIL_IN = {FAIL_IN_NEW, FAIL_IN_FAULTY, FAIL_IN_BUSY, FAIL_IN_FULL};

    private void errorsChangeNothing() {
        holds(TERMS, "A call that returns an error changes nothing.");
        for (int kind = 0; kind < FAIL_IN.length; kind++) {
            for (Failing failing : FAIL_EVERYWHERE) changesNothing(kind, failing);
            for (Failing failing : FAIL_IN[kind]) changesNothing(kind, failing);
        }
        x = new HallBuilds();
        x.end();
        String before = view(x);
        due("a stand behind the end", x.stand(1, 1, 1, NONE), NOT_POSSIBLE);
        same("behind the end", view(x), before);
        due("one change", x.count(19), 1);
    }

    private void changesNothing(int kind, Failing failing) {
        String name = failing.name() + " in a hall of kind " + kind;
        // Two halls for each call, as a hall is asked no more than 512 times.
        HallBuilds left = built(kind);
        HallBuilds failed = built(kind);
        due(name, failing.call().on(failed), failing.error());
        due(name + ", changes", failed.count(19), left.count(19));
        same(name, view(failed), view(left));
        left = built(kind);
        failed = built(kind);
        failing.call().on(failed);
        due(name + ", then carryOut", failed.carryOut(), left.carryOut());
        for (int slot = 0; slot < 2; slot++) due(name + ", then restore", failed.restore(slot), left.restore(slot));
        for (int k = 0; k < 6; k++) {
            due(name + ", then undo", failed.undo(), left.undo());
            due(name + ", then hours", failed.count(0), left.count(0));
        }
        same(name + " and undone", view(failed), view(left));
    }

    private void noneAndErrors() {
        holds(TERMS, "NONE (-6) is not an error; it is returned only if no error applies.");
        x.set(DOCK, 1);
        x.stand(1, 20, 0, NONE);
        due("allIn", x.allIn(), NONE);
        due("withCrew", x.withCrew(1), NONE);
        due("withCrew of no speed", x.withCrew(0), BAD_VALUE);
        crews(6);
        due("allIn with crews", x.allIn(), NONE);
        due("withCrew of a seventh", x.withCrew(1), TOO_MANY);
        due("no base", x.ofStand(0, 3), NONE);
        due("no phase", x.ofStand(0, 6), NONE);
        due("no crew", x.ofStand(0, 7), NONE);
        due("no stand", x.ofStand(1, 3), NO_SUCH);
        due("no such thing", x.ofStand(0, 10), BAD_VALUE);
        due("the crew has no stand", x.ofCrew(0, 2), NONE);
        due("no crew", x.ofCrew(6, 2), NO_SUCH);
        due("a base of NONE is no error", x.stand(1, 1, 1, NONE), 1);
        text("e");
        due("no fault", x.fault(), NONE);
        due("a text without a fault", x.carryOut(), 1);
    }

    private void numbersAndSets() {
        holds(TERMS, "Everything is numbered from 0.");
        due("the first hour", x.count(0), 0);
        due("the first fault", x.fault(), 0);
        due("the first stand", x.stand(1, 1, 1, NONE), 0);
        due("the first crew", x.crew(1, 1), 0);
        due("the first phase", x.load(0), 0);
        due("the first slot", x.save(0), 1);
        due("the first setting", x.set(0, 20), 20);

        holds(TERMS, "Sets of stands are bit masks.");
        stands(1);
        due("empty", x.ofStand(0, 8), 0);
        for (int s = 1; s < 20; s++) {
            x.stand(1, 1, 0, 0);
            due("up to " + s, x.ofStand(0, 8), (2 << s) - 2);
        }
        due("the last one", x.ofStand(19, 8), 0);
        x = new HallBuilds();
        stands(19);
        x.stand(1, 1, 0, 7);
        due("the last one alone", x.ofStand(7, 8), 524288);
    }

    // ---- settings

    private void settings() {
        holds(TERMS, "(In parentheses: range; first value.)");
        counts("first values", 15, 20, 2, 60);

        holds(TERMS, "DOCK (1 to 60; 20): meters of the dock;");
        range(DOCK, 60, 20);
        x = new HallBuilds();
        x.stand(1, 20, 0, NONE);
        x.pass(1);
        due("20 meters are enough for 20", x.count(10), 20);

        holds(TERMS, "UNLOAD (1 to 9; 2): hours that a lorry needs at the dock;");
        range(UNLOAD, 9, 2);
        x = new HallBuilds();
        x.stand(1, 1, 0, NONE);
        x.pass(2);
        states("two hours", AT_DOCK);
        x.pass(1);
        states("the third", READY);

        holds(TERMS, "PHASE (1 to 999; 60): the power of each of the three phases, 0 to 2.");
        range(PHASE, 999, 60);
        x = new HallBuilds();
        for (int s = 0; s < 4; s++) x.stand(1, 1, 60, NONE);
        x.crew(9, 0);
        x.pass(6);
        for (int phase = 0; phase < 3; phase++) due("phase " + phase, x.load(phase), 60);
        due("no fourth", x.ofStand(3, 6), NONE);
        due("below", x.load(-1), NO_SUCH);
        due("above", x.load(3), NO_SUCH);
    }

    private void range(int setting, int most, int first) {
        int[] wrong = {0, -1, most + 1, LEAST, MOST};
        for (int value : wrong) due("value " + value, x.set(setting, value), BAD_VALUE);
        due("it stays", x.count(15 + setting), first);
        due("greatest", x.set(setting, most), first);
        due("it is", x.count(15 + setting), most);
        due("least", x.set(setting, 1), most);
        due("it is", x.count(15 + setting), 1);
    }

    // ---- stands, crews

    private void standsThereAre() {
        holds(TERMS, "There are up to 20 stands, numbered in the order in which they came.");
        for (int s = 0; s < 20; s++) due("stand", x.stand(1 + s, 1, 1, NONE), s);
        due("the 21st", x.stand(1, 1, 1, NONE), TOO_MANY);
        due("stands", x.count(1), 20);
        for (int s = 0; s < 20; s++) due("hours of " + s, x.ofStand(s, 0), 1 + s);
        x.undo();
        due("room again", x.stand(77, 1, 1, NONE), 19);
        x.end();
        due("those that are gone count too", x.stand(1, 1, 1, NONE), TOO_MANY);

        holds(TERMS, "A stand has hours (1 to 99) of work, the length of its lorry (1 to 20 meters), a power (0 to 99), and perhaps"
            + " a base: a stand that came earlier, on which it stands.");
        due("least", x.stand(1, 1, 0, NONE), 0);
        due("greatest", x.stand(99, 20, 99, 0), 1);
        int[] least = {1, 1, 0, NONE};
        int[] greatest = {99, 20, 99, 0};
        for (int what = 0; what < 4; what++) {
            due("of the least", x.ofStand(0, what), least[what]);
            due("of the greatest", x.ofStand(1, what), greatest[what]);
        }
        due("itself is not earlier", x.stand(1, 1, 0, 2), NO_SUCH);
        due("the next is not earlier", x.stand(1, 1, 0, 3), NO_SUCH);
        due("the latest one is", x.stand(1, 1, 0, 1), 2);

        holds(TERMS, "It is told (0), at the dock (1), ready to be built (2), being built (3), built (4), being dismantled (5),"
            + " or gone (6).");
        x.stand(6, 1, 0, NONE);
        states("told", TOLD);
        x.pass(1);
        states("at the dock", AT_DOCK);
        x.pass(2);
        states("ready", READY);
        x.crew(2, 0);
        x.pass(1);
        states("being built", BUILDING);
        x.pass(2);
        states("built", BUILT);
        x.end();
        states("still built", BUILT);
        x.pass(1);
        states("being dismantled", DISMANTLING);
        x.pass(1);
        states("gone", GONE);
        x.pass(9);
        states("gone for ever", GONE);
    }

    private void crewsThereAre() {
        holds(TERMS, "There are up to 6 crews, numbered in the order in which they came, with a speed (1 to 9): hours of work that they"
            + " do in an hour, and a rate (0 to 99): what an hour of a crew that works costs.");
        int[] speeds = {1, 9, 2, 3, 4, 5};
        int[] rates = {99, 0, 1, 2, 3, 4};
        for (int c = 0; c < 6; c++) due("crew", x.crew(speeds[c], rates[c]), c);
        due("the seventh", x.crew(1, 0), TOO_MANY);
        due("crews", x.count(2), 6);
        for (int s = 0; s < 6; s++) x.stand(20, 1, 0, NONE);
        x.pass(3);
        for (int c = 0; c < 6; c++) {
            due("speed of " + c, x.ofCrew(c, 0), speeds[c]);
            due("rate of " + c, x.ofCrew(c, 1), rates[c]);
            due("work of " + c, x.ofStand(c, 5), 20 - speeds[c]);
            due("cost of " + c, x.ofCrew(c, 4), rates[c]);
        }
        int[][] wrong = {{0, 0}, {10, 0}, {-1, 0}, {1, -1}, {1, 100}, {LEAST, 0}, {MOST, 0}, {1, LEAST}, {1, MOST}};
        x = new HallBuilds();
        for (int[] values : wrong) due("crew " + values[0] + " " + values[1], x.crew(values[0], values[1]), BAD_VALUE);
    }

    // ---- docks

    private void docks() {
        holds(TERMS, "Lorries of stands wait in a queue, in the order in which the stands came.");
        x.set(DOCK, 1);
        x.set(UNLOAD, 1);
        stands(3);
        states("hour 0", TOLD, TOLD, TOLD);
        x.pass(1);
        states("hour 1", AT_DOCK, TOLD, TOLD);
        x.pass(1);
        states("hour 2", READY, AT_DOCK, TOLD);
        x.pass(1);
        states("hour 3", READY, READY, AT_DOCK);

        holds(TERMS, "In an hour they are looked at from the first one on, as long as the next one has room at the dock (the lengths of"
            + " all lorries there together at most DOCK): it comes to the dock.");
        room("exactly DOCK", 20, new int[] {12, 8, 1}, 1, 1, 0);
        room("a meter too much", 20, new int[] {12, 9}, 1, 0);
        room("a meter less than DOCK", 20, new int[] {12, 7}, 1, 1);
        room("the greatest dock", 60, new int[] {20, 20, 20, 1}, 1, 1, 1, 0);
        room("the least dock", 1, new int[] {1, 1}, 1, 0);
        room("one that is as long as the dock", 13, new int[] {13}, 1);
        room("one that is longer than the dock", 13, new int[] {14}, 0);
        room("an empty queue", 20, new int[] {});

        holds(TERMS, "(A lorry that has no room holds up all behind it.)");
        room("the third would have room", 20, new int[] {12, 9, 8}, 1, 0, 0);
        room("one that never has room", 10, new int[] {11, 1, 1}, 0, 0, 0);
        x.pass(99);
        states("for ever", TOLD, TOLD, TOLD);
        x.set(DOCK, 11);
        x.pass(1);
        states("with a meter more", AT_DOCK, TOLD, TOLD);

        holds(TERMS, "It is there for UNLOAD hours (as that is when it comes), this one too; it leaves in 1 of the hour behind these,"
            + " and the stand is ready then.");
        for (int hours = 1; hours <= 9; hours++) {
            x = new HallBuilds();
            x.set(UNLOAD, hours);
            stands(1);
            x.pass(hours);
            states("UNLOAD " + hours, AT_DOCK);
            x.pass(1);
            states("behind UNLOAD " + hours, READY);
        }
        x = new HallBuilds();
        x.set(UNLOAD, 3);
        x.crew(9, 0);
        stands(1);
        due("it is not worked on before", x.pass(3), 0);
        due("it is ready in the hour in which it leaves", x.pass(1), 1);
        x = new HallBuilds();
        x.set(DOCK, 1);
        stands(2);
        x.pass(1);
        x.set(UNLOAD, 9);
        x.pass(1);
        states("the hours of when it came", AT_DOCK, TOLD);
        x.pass(1);
        states("two of them", READY, AT_DOCK);
        x.set(UNLOAD, 1);
        x.pass(8);
        states("nine of them", READY, AT_DOCK);
        x.pass(1);
        states("behind nine", READY, READY);
    }

    private void room(String when, int dock, int[] lengths, int... wanted) {
        x = new HallBuilds();
        x.set(DOCK, dock);
        int meters = 0;
        for (int s = 0; s < lengths.length; s++) {
            x.stand(1, lengths[s], 0, NONE);
            meters += wanted[s] * lengths[s];
        }
        x.pass(1);
        states(when, wanted);
        due(when + ", meters", x.count(10), meters);
    }

    // ---- power

    private static final String POWER = "When a stand is built, its power is put on the phase with the least load, of several the"
        + " lowest one, if the load is at most PHASE then (also a power of 0); otherwise it stays without power (and gets none later).";

    /** Stands of these powers, built one after the other. */
    private void powers(int... powers) {
        for (int power : powers) x.stand(1, 1, power, NONE);
        x.crew(9, 0);
        goTo(2 + powers.length);
        due("built", x.count(7), powers.length);
    }

    private void onPhases(String when, int... wanted) {
        for (int s = 0; s < wanted.length; s++) due(when + ", phase of " + s, x.ofStand(s, 6), wanted[s]);
    }

    private void loads(String when, int... wanted) {
        for (int phase = 0; phase < 3; phase++) due(when + ", load of " + phase, x.load(phase), wanted[phase]);
    }

    private void phases() {
        holds(TERMS, POWER);
        powers(10, 10, 10, 10, 10);
        onPhases("of several the lowest one", 0, 1, 2, 0, 1);
        loads("of several the lowest one", 20, 20, 10);

        holds(TERMS, POWER);
        powers(30, 20, 10, 5, 5, 1);
        onPhases("the least load", 0, 1, 2, 2, 2, 1);
        loads("the least load", 30, 21, 20);

        holds(TERMS, POWER);
        powers(60, 61);
        onPhases("at most PHASE", 0, NONE);
        loads("at most PHASE", 60, 0, 0);

        holds(TERMS, POWER);
        powers(40, 40, 40, 21, 20, 0);
        onPhases("at most PHASE together", 0, 1, 2, NONE, 0, 1);
        loads("at most PHASE together", 60, 40, 40);
        due("without power", x.count(14), 1);

        holds(TERMS, POWER);
        powers(0, 0, 7, 0);
        onPhases("a power of 0", 0, 0, 0, 1);
        loads("a power of 0", 7, 0, 0);

        holds(TERMS, POWER);
        powers(60, 60, 60, 0, 1);
        onPhases("full phases take a power of 0", 0, 1, 2, 0, NONE);
        due("without power", x.count(14), 1);

        holds(TERMS, POWER);
        powers(40, 40, 40);
        x.set(PHASE, 39);
        x.stand(1, 1, 0, NONE);
        x.pass(3);
        onPhases("also a power of 0 where the load is above PHASE", 0, 1, 2, NONE);
        due("it has no power to be without", x.count(14), 0);

        holds(TERMS, POWER);
        x.set(PHASE, 1);
        powers(2, 1);
        onPhases("too much", NONE, 0);
        x.set(PHASE, 999);
        x.pass(99);
        onPhases("none later", NONE, 0);
        x.end();
        x.pass(1);
        onPhases("not when others are dismantled either", NONE, NONE);
        due("still without power", x.count(14), 1);

        holds(TERMS, POWER);
        x.stand(10, 1, 5, NONE);
        x.crew(9, 0);
        x.pass(3);
        states("being built", BUILDING);
        loads("not before it is built", 0, 0, 0);
        x.pass(1);
        loads("when it is built", 5, 0, 0);

        holds(TERMS, POWER);
        x.crew(1, 0);
        x.crew(2, 0);
        x.stand(2, 1, 50, NONE);
        x.stand(6, 1, 20, NONE);
        x.stand(1, 1, 40, NONE);
        due("two in one hour", x.pass(4), 1);
        due("two in one hour", x.pass(1), 2);
        // Crew 0 went on to stand 2, which therefore finds its phase before stand 1 of crew 1 does.
        onPhases("in one hour, as the crews are numbered", 0, 2, 1);
        loads("in one hour, as the crews are numbered", 50, 40, 20);

        holds(TERMS, "When it begins to be dismantled its power is taken off.");
        powers(5, 6, 7, 8);
        loads("built", 13, 6, 7);
        x.crew(1, 0);
        x.end();
        loads("not at the end of the fair", 13, 6, 7);
        x.pass(1);
        loads("the first two", 5, 6, 0);
        x = new HallBuilds();
        x.stand(4, 1, 9, NONE);
        x.crew(1, 0);
        x.pass(6);
        x.end();
        due("on its phase", x.ofStand(0, 6), 0);
        x.pass(1);
        states("it has begun", DISMANTLING);
        loads("in the hour in which it begins", 0, 0, 0);
        due("on none", x.ofStand(0, 6), NONE);
        x.pass(1);
        loads("taken off once", 0, 0, 0);
        x = new HallBuilds();
        powers(61);
        x.end();
        x.pass(1);
        loads("nothing where it was on none", 0, 0, 0);
    }

    // ---- an hour

    private void anHour() {
        holds(TERMS, "Hours are counted from 0 on.");
        due("new", x.count(0), 0);
        x.pass(1);
        due("one", x.count(0), 1);
        x.pass(99);
        due("100", x.count(0), 100);

        holds(TERMS, "In an hour: 1. Lorries that were at the dock for their hours leave; then others come, as told.");
        x.stand(1, 20, 0, NONE);
        x.stand(1, 20, 0, NONE);
        x.pass(2);
        states("no room", AT_DOCK, TOLD);
        x.pass(1);
        states("room in the hour in which the other leaves", READY, AT_DOCK);

        crewsTakeBeforeTheEnd();
        crewsTakeBehindTheEnd();
        crewsWork();
        halves();
    }

    private void crewsTakeBeforeTheEnd() {
        String words = "2. Each crew that has no stand, in the order of their numbers, takes one: while the fair has not ended: the ready"
            + " one with the lowest number whose base, if it has one, is built;";
        holds(TERMS, words);
        x.crew(1, 0);
        x.crew(1, 0);
        for (int s = 0; s < 3; s++) x.stand(2, 1, 0, NONE);
        x.pass(3);
        due("crew 0", x.ofCrew(0, 2), 0);
        due("crew 1", x.ofCrew(1, 2), 1);
        states("the third waits", BUILDING, BUILDING, READY);

        holds(TERMS, words);
        x.stand(2, 1, 0, NONE);
        x.stand(1, 1, 0, 0);
        x.stand(1, 1, 0, NONE);
        x.crew(1, 0);
        x.crew(1, 0);
        x.pass(3);
        states("the one on a base that is not built is passed over", BUILDING, READY, BUILT);
        x.pass(1);
        states("the base is built in this hour, too late to be taken", BUILT, READY, BUILT);
        x.pass(1);
        states("in the next one it is taken", BUILT, BUILT, BUILT);
        due("by crew 0", x.ofCrew(0, 5), 2);

        holds(TERMS, words);
        x.set(DOCK, 1);
        x.stand(5, 1, 0, NONE);
        x.stand(1, 1, 0, NONE);
        x.crew(1, 0);
        x.pass(6);
        due("a crew that has a stand keeps it", x.ofCrew(0, 2), 0);
        states("the other is ready", BUILDING, READY);

        holds(TERMS, words);
        x.set(DOCK, 1);
        stands(2);
        x.crew(9, 0);
        x.pass(3);
        states("one that is at the dock is not taken", BUILT, AT_DOCK);
        due("the crew has none", x.ofCrew(0, 2), NONE);

        holds(TERMS, words);
        x.stand(1, 1, 0, NONE);
        x.stand(1, 1, 0, 0);
        x.stand(1, 1, 0, 1);
        x.crew(9, 0);
        x.crew(9, 0);
        due("a row of bases: hour 2", x.pass(3), 1);
        due("hour 3", x.pass(1), 1);
        due("hour 4", x.pass(1), 1);
        due("all by crew 0", x.ofCrew(0, 5), 3);
    }

    private void crewsTakeBehindTheEnd() {
        String words = "behind its end: the built one with the greatest number on which no other stand stands that is not gone.";
        holds(TERMS, words);
        for (int s = 0; s < 3; s++) x.stand(4, 1, 0, NONE);
        x.crew(1, 0);
        x.crew(1, 0);
        x.pass(10);
        x.end();
        x.pass(1);
        due("crew 0", x.ofCrew(0, 2), 2);
        due("crew 1", x.ofCrew(1, 2), 1);
        states("the first waits", BUILT, DISMANTLING, DISMANTLING);

        holds(TERMS, words);
        x.stand(1, 1, 0, NONE);
        x.stand(1, 1, 0, NONE);
        x.stand(4, 1, 0, 1);
        x.crew(1, 0);
        x.crew(1, 0);
        x.pass(8);
        due("built", x.count(7), 3);
        x.end();
        x.pass(1);
        states("1 carries one that is being dismantled", GONE, BUILT, DISMANTLING);
        x.pass(1);
        states("2 is gone in this hour, too late for 1 to be taken", GONE, BUILT, GONE);
        x.pass(1);
        states("in the next one", GONE, GONE, GONE);

        holds(TERMS, words);
        x.stand(1, 1, 0, NONE);
        x.stand(99, 1, 0, 0);
        x.crew(9, 0);
        x.pass(4);
        states("the other is not built", BUILT, BUILDING);
        x.end();
        due("what is gone at once carries nothing up", x.pass(1), 1);
        states("gone", GONE, GONE);

        holds(TERMS, words);
        x.stand(1, 1, 0, NONE);
        x.end();
        x.crew(1, 0);
        due("none is built", x.pass(9), 0);
        due("the crew has none", x.ofCrew(0, 2), NONE);
    }

    private void crewsWork() {
        String words = "3. Each crew that has a stand works on it: its speed, or the hours that are left.";
        holds(TERMS, words);
        x.stand(10, 1, 0, NONE);
        x.crew(9, 0);
        x.pass(3);
        due("its speed", x.ofStand(0, 5), 1);
        x.pass(1);
        due("the hours that are left", x.ofStand(0, 5), 0);
        x = new HallBuilds();
        x.stand(9, 1, 0, NONE);
        x.crew(9, 0);
        due("exactly its speed", x.pass(3), 1);

        holds(TERMS, "If none are left, the stand is built, or gone, in this hour, and the crew has none any more.");
        x.stand(2, 1, 0, NONE);
        x.stand(9, 1, 0, NONE);
        x.crew(2, 0);
        due("built in this hour", x.pass(3), 1);
        states("built", BUILT, READY);
        due("the crew has none", x.ofCrew(0, 2), NONE);
        due("no crew has it", x.ofStand(0, 7), NONE);
        x.pass(1);
        due("it takes the next one in the next hour", x.ofCrew(0, 2), 1);
        x.end();
        due("gone in this hour", x.pass(1), 1);
        states("gone", GONE, GONE);
        due("the crew has none", x.ofCrew(0, 2), NONE);
        due("no crew has it", x.ofStand(0, 7), NONE);

        holds(TERMS, "(Each hour in which a crew works counts as one of the crew's, and costs its rate.)");
        x.stand(10, 1, 0, NONE);
        x.crew(9, 99);
        x.crew(9, 99);
        x.pass(2);
        due("none while nothing is ready", x.ofCrew(0, 3), 0);
        x.pass(2);
        due("an hour with less work is one too", x.ofCrew(0, 3), 2);
        due("cost", x.ofCrew(0, 4), 198);
        x.pass(9);
        due("none behind it", x.ofCrew(0, 3), 2);
        due("the other one never worked", x.ofCrew(1, 4), 0);
        x.end();
        x.pass(1);
        due("an hour of dismantling is one too", x.ofCrew(0, 4), 297);
        due("all costs", x.count(13), 297);
        x = new HallBuilds();
        stands(1);
        x.crew(1, 0);
        x.pass(3);
        due("a rate of 0", x.ofCrew(0, 4), 0);
        due("and its hour", x.ofCrew(0, 3), 1);
    }

    private void halves() {
        holds(TERMS, "To dismantle a stand takes half of its hours, rounded up.");
        int[][] hoursAndHalves = {{1, 1}, {2, 1}, {3, 2}, {4, 2}, {5, 3}, {98, 49}, {99, 50}};
        for (int[] pair : hoursAndHalves) {
            x = new HallBuilds();
            x.stand(pair[0], 1, 0, NONE);
            x.crew(1, 0);
            goTo(2 + pair[0]);
            x.end();
            due("half of " + pair[0], x.allIn(), pair[1]);
            x.pass(1);
            due("left of " + pair[0], x.ofStand(0, 5), pair[1] - 1);
            due("hours of " + pair[0], x.ofStand(0, 0), pair[0]);
        }
    }

    // ---- the end, losses

    private void theEnd() {
        holds(TERMS, "When the fair ends, stands that are not built yet are gone at once: told ones, those at the dock, ready ones, and"
            + " those that are being built (their crews have none any more).");
        x = busyHall();
        states("before", BUILT, BUILDING, READY, AT_DOCK, TOLD);
        due("being built by", x.ofCrew(0, 2), 1);
        due("gone at once", x.end(), 4);
        states("behind", BUILT, GONE, GONE, GONE, GONE);
        due("its crew has none", x.ofCrew(0, 2), NONE);
        due("no crew has it", x.ofStand(1, 7), NONE);
        due("the dock is empty", x.count(10), 0);
        due("no work is left", x.ofStand(1, 5), 0);
        due("hours stay spent", x.ofStand(1, 9), 1);
        due("the crew takes the one that is built", x.pass(1), 1);
        states("then", GONE, GONE, GONE, GONE, GONE);
        x = new HallBuilds();
        x.crew(1, 0);
        x.stand(4, 1, 0, NONE);
        x.pass(6);
        x.end();
        x.pass(1);
        states("one that is being dismantled goes on", DISMANTLING);
        due("gone in its time", x.pass(1), 1);
    }

    private void losses() {
        String words = "When a stand is gone by being dismantled, something is lost if its number and this hour (0 for the first one),"
            + " added, can be divided by 4.";
        holds(TERMS, words);
        for (int number = 0; number < 6; number++) {
            for (int hour = 10; hour < 15; hour++) {
                x = new HallBuilds();
                stands(number + 1);
                x.crew(9, 0);
                goTo(hour);
                x.end();
                due("dismantled", x.pass(1), 1);
                states("the greatest number", number == 0 ? GONE : BUILT);
                int sum = number + hour;
                due(number + " in hour " + hour, x.count(12), sum == 12 || sum == 16 ? 1 : 0);
            }
        }

        holds(TERMS, words);
        for (int hour = 0; hour < 5; hour++) {
            x = new HallBuilds();
            stands(20);
            goTo(hour);
            due("gone at once", x.end(), 20);
            due("not by being dismantled, hour " + hour, x.count(12), 0);
        }

        holds(TERMS, words);
        x.set(UNLOAD, 1);
        x.crew(9, 0);
        stands(3);
        x.pass(4);
        x.stand(99, 1, 0, NONE);
        due("nothing is lost by building", x.count(12), 0);
        x.end();
        // 2 in hour 4, 1 in hour 5, 0 in hour 6.
        due("dismantled", x.pass(3), 3);
        due("no sum can be divided", x.count(12), 0);
        x = new HallBuilds();
        x.set(UNLOAD, 1);
        x.crew(9, 0);
        stands(1);
        x.pass(2);
        x.end();
        x.pass(2);
        due("0 in hour 2", x.count(12), 0);
        x = new HallBuilds();
        x.set(UNLOAD, 1);
        crews(3);
        stands(3);
        x.pass(2);
        x.end();
        due("three in hour 2", x.pass(1), 3);
        due("2 and 2", x.count(12), 1);
    }

    // ---- texts

    private void texts() {
        holds(TERMS, "The pad is a text of at most 80 characters, a row of orders:");
        String full = "t1" + ";e".repeat(39);
        text(full);
        due("80", x.count(18), 80);
        due("the 81st", x.put('e'), TOO_MANY);
        due("80 again", x.count(18), 80);
        due("no fault", x.fault(), NONE);
        due("the second e is an error", x.carryOut(), 2);
        text("e;".repeat(40));
        due("too early at 80", x.fault(), 80);

        holds(TERMS, "text text = order { \";\" order } order = \"+\" number \",\" number \",\" number [ \"^\" number ]"
            + " | \"c\" digit \"$\" number | \"d\" number | \"t\" number | \"e\"");
        String[] orders = {"+1,2,3", "+0,0,0", "+99,99,99", "+1,2,3^0", "+1,2,3^99", "c1$0", "c9$99", "d0", "d99", "t0", "t99", "e"};
        for (String order : orders) {
            noFault(order);
            for (String other : orders) noFault(order + ";" + other);
            fault(order + ";", order.length() + 1);
            fault(order + ";;" + order, order.length() + 1);
            fault(order + order, order.length());
            fault(";" + order, 0);
        }
        noFault("e" + ";e".repeat(39));

        holds(TERMS, "\"+\": stand() with hours, length, power, and the stand on which it stands (none, if it is left out);");
        due("two stands", carryOut("+99,20,98;+1,2,0^0"), 2);
        int[][] wanted = {{99, 20, 98, NONE}, {1, 2, 0, 0}};
        for (int s = 0; s < 2; s++) {
            for (int what = 0; what < 4; what++) due("stand " + s + ", " + what, x.ofStand(s, what), wanted[s][what]);
        }
        due("no such base", carryOut("+1,1,1^2"), 0);
        due("hours of 0", carryOut("+0,1,1"), 0);
        due("two stands still", x.count(1), 2);

        holds(TERMS, "\"c\": crew() with a speed and a rate; \"d\": set() of DOCK; \"t\": pass() hours; \"e\": end().");
        due("all of them", carryOut("c9$98;c1$0;d60;t99;e"), 5);
        int[][] crews = {{9, 98}, {1, 0}};
        for (int c = 0; c < 2; c++) {
            for (int what = 0; what < 2; what++) due("crew " + c + ", " + what, x.ofCrew(c, what), crews[c][what]);
        }
        counts("dock alone", 15, 60, 2, 60);
        due("hours", x.count(0), 99);
        due("ended", x.count(11), 1);
        due("a dock of 0", carryOut("d0"), 0);
        due("a dock of 61", carryOut("d61"), 0);
        due("no hours", carryOut("t0"), 0);
        due("ended already", carryOut("e"), 0);

        holds(TERMS, "A digit is 1 to 9, a number 0 to 99, without leading zeros.");
        for (int digit = 1; digit <= 9; digit++) noFault("c" + digit + "$1");
        fault("c0$1", 1);
        fault("c10$1", 2);
        for (int number = 0; number <= 99; number++) {
            noFault("t" + number);
            if (number < 10) fault("t0" + number, 2);
        }
        fault("t000", 2);
        fault("t100", 3);
        fault("t-1", 1);
        fault("t/", 1);
        fault("t:", 1);
        fault("t5/", 2);
        fault("t5:", 2);
        fault("c/$1", 1);
        fault("c:$1", 1);
    }

    private void noFault(String text) {
        fault(text, NONE);
    }

    private void fault(String text, int wanted) {
        // A hall of its own for each text, as a hall is asked no more than 512 times.
        HallBuilds hall = new HallBuilds();
        Check.putText(hall, text);
        due("fault of " + text, hall.fault(), wanted);
        if (wanted != NONE) due("carryOut of " + text, hall.carryOut(), BAD_TEXT);
    }

    private void faults() {
        holds(TERMS, "The fault is the index of the first character that cannot stand at its place when the text is read from left to"
            + " right (also of a digit by which a number would be above 99);");
        fault("x", 0);
        fault("1", 0);
        fault(";", 0);
        fault("T1", 0);
        fault("e;x", 2);
        fault("e,e", 1);
        fault("e1", 1);
        fault("tx", 1);
        fault("t;e", 1);
        fault("t1,", 2);
        fault("d^", 1);
        fault("c$1", 1);
        fault("c1,1", 2);
        fault("c1$$", 3);
        fault("+,1,1", 1);
        fault("+1;1,1", 2);
        fault("+1^1,1", 2);
        fault("+1,2;e", 4);
        fault("+1,2^3", 4);
        fault("+1,2,3,4", 6);
        fault("+1,2,3^x", 7);
        fault("+1,2,3^4^5", 8);
        fault("+100,1,1", 3);
        fault("+1,100,1", 5);
        fault("+1,1,100", 7);
        fault("+1,1,1^100", 9);
        fault("c1$100", 5);
        fault("d990", 3);
        fault("t999x", 3);
        fault("t9!9", 2);
        fault("x;x", 0);

        holds(TERMS, "if there is none and the text ends too early (also if it is empty), it is the length of the text.");
        String[] early = {"", "+", "+1", "+1,", "+1,2", "+1,2,", "+1,2,3^", "c", "c1", "c1$", "d", "t", "e;", "t99;", "+1,2,3;", "e;t"};
        for (String text : early) fault(text, text.length());
        noFault("+1,2,3");
        x.put('e');
        x.wipe();
        due("empty again", x.fault(), 0);
    }

    // ---- the rest

    private void constants() {
        holds(TERMS, "The constants: NO_SUCH = -1, BAD_VALUE = -2, BAD_TEXT = -3, TOO_MANY = -4, NOT_POSSIBLE = -5, NONE = -6: Error"
            + " codes, and NONE: there is none. DOCK = 0, UNLOAD = 1, PHASE = 2: Settings.");
        int[] got = {HallBuilds.NO_SUCH, HallBuilds.BAD_VALUE, HallBuilds.BAD_TEXT, HallBuilds.TOO_MANY,
            HallBuilds.NOT_POSSIBLE, HallBuilds.NONE};
        for (int k = 0; k < got.length; k++) due("code", got[k], -1 - k);
        due("dock", HallBuilds.DOCK, 0);
        due("unload", HallBuilds.UNLOAD, 1);
        due("phase", HallBuilds.PHASE, 2);
    }

    private void whatIfs() {
        holds(TERMS, "Ahead of the calls allIn, withCrew, leastDock the interface says: ---- what if; nothing changes (the bound of"
            + " hours does not matter).");
        x.crew(1, 0);
        goTo(9999);
        x.stand(7, 1, 0, NONE);
        String before = view(x);
        due("no hour can pass", x.pass(1), NOT_POSSIBLE);
        due("allIn", x.allIn(), 9);
        due("withCrew", x.withCrew(9), 9);
        due("leastDock", x.leastDock(), 1);
        same("nothing changes", view(x), before);
        x = busyHall();
        before = view(x);
        for (int speed = 1; speed <= 9; speed++) x.withCrew(speed);
        x.allIn();
        x.leastDock();
        same("nothing changes in a busy hall", view(x), before);
        due("no change is recorded", x.count(19), 6);
        due("what was saved stays", x.restore(0), 5);
        same("as it was saved", view(x), before);
    }
}
