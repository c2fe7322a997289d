/** A test for each promise of the document, with answers worked out by hand. */
public final class PromisesTest {
    private static final int NO_SUCH = -1, BAD_VALUE = -2, BAD_TEXT = -3, TOO_MANY = -4, NOT_POSSIBLE = -5, NONE = -6;
    private static final int LEAST = Integer.MIN_VALUE, MOST = Integer.MAX_VALUE;

    private final Check check = new Check("PromisesTest");
    private String promise = "";
    private HallBuilds x;

    public static void main(String[] args) {
        PromisesTest test = new PromisesTest();
        test.newObject();
        test.settings();
        test.stands();
        test.crews();
        test.endOfFair();
        test.lostAndFound();
        test.hours();
        test.docks();
        test.crewsTakeStands();
        test.power();
        test.dismantling();
        test.whatOfStand();
        test.whatOfCrew();
        test.counts();
        test.reasonsToWait();
        test.untilAllIn();
        test.withAnotherCrew();
        test.leastDocks();
        test.characters();
        test.faults();
        test.ordersCarriedOut();
        test.undoing();
        test.saving();
        test.check.close();
    }

    private void begin(String name) {
        promise = name;
        x = new HallBuilds();
    }

    private void due(String what, long got, long want) {
        check.due(promise + ": " + what, got, want);
    }

    private void states(String when, int... wanted) {
        for (int s = 0; s < wanted.length; s++) due(when + ", state of " + s, x.ofStand(s, 4), wanted[s]);
    }

    private void answersOfCount(String when, int from, int... wanted) {
        for (int k = 0; k < wanted.length; k++) due(when + ", count(" + (from + k) + ")", x.count(from + k), wanted[k]);
    }

    private void newObject() {
        begin("1 new object");
        answersOfCount("new", 0, 0, 0, 0, 0, 0, 0, 0, 0, 0, 0, 0, 0, 0, 0, 0, 20, 2, 60, 0, 0);
        for (int phase = 0; phase < 3; phase++) due("load", x.load(phase), 0);
        due("ofStand", x.ofStand(0, 0), NO_SUCH);
        due("ofCrew", x.ofCrew(0, 0), NO_SUCH);
        due("waitsFor", x.waitsFor(0), NO_SUCH);
        due("allIn", x.allIn(), 0);
        due("withCrew", x.withCrew(1), 0);
        due("leastDock", x.leastDock(), 1);
        due("fault", x.fault(), 0);
        due("carryOut", x.carryOut(), BAD_TEXT);
        due("wipe", x.wipe(), 0);
        due("undo", x.undo(), NOT_POSSIBLE);
        due("restore 0", x.restore(0), NOT_POSSIBLE);
        due("restore 1", x.restore(1), NOT_POSSIBLE);
        due("find", x.find(), NOT_POSSIBLE);
        x.stand(1, 1, 1, NONE);
        due("another object", new HallBuilds().count(1), 0);
    }

    private void settings() {
        begin("2 set");
        int[] first = {20, 2, 60};
        int[] most = {60, 9, 999};
        for (int setting = 0; setting < 3; setting++) {
            due("0", x.set(setting, 0), BAD_VALUE);
            due("above", x.set(setting, most[setting] + 1), BAD_VALUE);
            due("far below", x.set(setting, LEAST), BAD_VALUE);
            due("far above", x.set(setting, MOST), BAD_VALUE);
            due("most", x.set(setting, most[setting]), first[setting]);
            due("least", x.set(setting, 1), most[setting]);
            due("now", x.count(15 + setting), 1);
        }
        due("setting -1", x.set(-1, 1), BAD_VALUE);
        due("setting 3", x.set(3, 1), BAD_VALUE);
        due("setting far above", x.set(MOST, 1), BAD_VALUE);
        due("setting far below", x.set(LEAST, 1), BAD_VALUE);
        due("changes", x.count(19), 6);

        begin("2 what is at the dock stays");
        x.stand(1, 20, 0, NONE);
        x.stand(1, 1, 0, NONE);
        x.pass(1);
        x.set(HallBuilds.DOCK, 1);
        x.set(HallBuilds.UNLOAD, 9);
        due("meters", x.count(10), 20);
        x.pass(1);
        states("hour 1", 1, 0);
        x.pass(1);
        states("hour 2: the hours of when it came", 2, 1);
        x.pass(8);
        states("hour 10", 2, 1);
        x.pass(1);
        states("hour 11", 2, 2);
    }

    private void stands() {
        begin("3 stand");
        due("hours 0", x.stand(0, 1, 0, NONE), BAD_VALUE);
        due("hours 100", x.stand(100, 1, 0, NONE), BAD_VALUE);
        due("length 0", x.stand(1, 0, 0, NONE), BAD_VALUE);
        due("length 21", x.stand(1, 21, 0, NONE), BAD_VALUE);
        due("power -1", x.stand(1, 1, -1, NONE), BAD_VALUE);
        due("power 100", x.stand(1, 1, 100, NONE), BAD_VALUE);
        due("far below", x.stand(LEAST, 1, 0, NONE), BAD_VALUE);
        due("far above", x.stand(1, MOST, 0, NONE), BAD_VALUE);
        due("no base yet", x.stand(1, 1, 0, 0), NO_SUCH);
        due("bad value before base", x.stand(1, 1, 100, 7), BAD_VALUE);
        due("base -1", x.stand(1, 1, 0, -1), NO_SUCH);
        due("base -5", x.stand(1, 1, 0, -5), NO_SUCH);
        due("base -7", x.stand(1, 1, 0, -7), NO_SUCH);
        due("base far below", x.stand(1, 1, 0, LEAST), NO_SUCH);
        due("base far above", x.stand(1, 1, 0, MOST), NO_SUCH);
        due("nothing changed", x.count(19), 0);
        due("first", x.stand(1, 1, 0, NONE), 0);
        due("base itself", x.stand(1, 1, 0, 1), NO_SUCH);
        due("second", x.stand(99, 20, 99, 0), 1);
        for (int s = 2; s < 20; s++) due("next", x.stand(1, 1, 1, s - 1), s);
        due("21st", x.stand(1, 1, 1, NONE), TOO_MANY);
        due("21st with a base", x.stand(1, 1, 1, 19), TOO_MANY);
        due("no such base before too many", x.stand(1, 1, 1, 20), NO_SUCH);
        due("value before too many", x.stand(0, 1, 1, NONE), BAD_VALUE);
        x.end();
        due("too many before the end", x.stand(1, 1, 1, 0), TOO_MANY);

        begin("3 stand behind the end");
        x.stand(1, 1, 1, NONE);
        x.end();
        due("ended", x.stand(1, 1, 1, NONE), NOT_POSSIBLE);
        due("base gone", x.stand(1, 1, 1, 0), NOT_POSSIBLE);
        due("no such base", x.stand(1, 1, 1, 1), NO_SUCH);
        due("bad value", x.stand(1, 0, 1, 0), BAD_VALUE);
        due("stands", x.count(1), 1);
    }

    private void crews() {
        begin("4 crew");
        due("speed 0", x.crew(0, 0), BAD_VALUE);
        due("speed 10", x.crew(10, 0), BAD_VALUE);
        due("rate -1", x.crew(1, -1), BAD_VALUE);
        due("rate 100", x.crew(1, 100), BAD_VALUE);
        due("far", x.crew(MOST, LEAST), BAD_VALUE);
        due("first", x.crew(1, 0), 0);
        due("second", x.crew(9, 99), 1);
        for (int c = 2; c < 6; c++) due("next", x.crew(c, c), c);
        due("seventh", x.crew(1, 1), TOO_MANY);
        due("bad value first", x.crew(1, 100), BAD_VALUE);
        due("crews", x.count(2), 6);
        begin("4 crew behind the end");
        x.end();
        due("it may come", x.crew(1, 1), 0);
    }

    /** Five stands of 8 hours: the crew has built 0 and builds 1, 2 is ready, 3 at the dock and 4 told. */
    private void fiveStands() {
        x.crew(4, 10);
        for (int s = 0; s < 3; s++) x.stand(8, 5, 10, NONE);
        x.stand(8, 15, 10, NONE);
        x.stand(8, 20, 10, NONE);
        x.set(HallBuilds.UNLOAD, 3);
        x.pass(6);
        states("five stands", 4, 3, 2, 1, 0);
    }

    private void endOfFair() {
        begin("5 end");
        fiveStands();
        due("left", x.ofStand(1, 5), 4);
        due("gone at once", x.end(), 4);
        states("behind the end", 4, 6, 6, 6, 6);
        due("again", x.end(), NOT_POSSIBLE);
        due("crew is free", x.ofCrew(0, 2), NONE);
        due("no crew on it", x.ofStand(1, 7), NONE);
        for (int s = 0; s < 5; s++) due("left of " + s, x.ofStand(s, 5), 0);
        due("meters", x.count(10), 0);
        due("ended", x.count(11), 1);
        due("only 0 was built", x.ofCrew(0, 5), 1);
        due("none was dismantled", x.ofCrew(0, 6), 0);
        due("hours stay", x.ofCrew(0, 3), 3);
        due("spent stays", x.ofStand(1, 9), 1);
        due("no power for what was not built", x.load(0), 10);
        due("nothing is lost by that", x.count(12), 0);
        begin("5 end of an empty fair");
        due("none", x.end(), 0);
        due("a change", x.count(19), 1);
        due("again", x.end(), NOT_POSSIBLE);
        due("no change", x.count(19), 1);
    }

    /** A stand of one hour, built, and the fair ends at the given hour (3 or later). */
    private void oneBuiltAt(int hour) {
        x.crew(9, 1);
        x.stand(1, 1, 0, NONE);
        x.pass(hour);
        x.end();
    }

    private void lostAndFound() {
        begin("6 find");
        for (int hour = 3; hour < 13; hour++) {
            x = new HallBuilds();
            oneBuiltAt(hour);
            due("gone", x.pass(1), 1);
            due("lost in hour " + hour, x.count(12), hour % 4 == 0 ? 1 : 0);
        }
        begin("6 find, more than one thing");
        x.crew(9, 0);
        for (int s = 0; s < 5; s++) x.stand(1, 1, 0, NONE);
        x.pass(7);
        due("built", x.count(7), 5);
        x.pass(1);
        x.end();
        // 4 in hour 8, 3 in 9, 2 in 10, 1 in 11, 0 in 12: all sums are 12.
        due("dismantled", x.pass(5), 5);
        due("lost", x.count(12), 5);
        for (int more = 4; more >= 0; more--) due("found", x.find(), more);
        due("nothing left", x.find(), NOT_POSSIBLE);
        due("changes", x.count(19), 6);
        due("undo", x.undo(), 5);
        due("lost again", x.count(12), 1);
    }

    private void hours() {
        begin("7 pass");
        due("0", x.pass(0), BAD_VALUE);
        due("-1", x.pass(-1), BAD_VALUE);
        due("100", x.pass(100), BAD_VALUE);
        due("far above", x.pass(MOST), BAD_VALUE);
        due("far below", x.pass(LEAST), BAD_VALUE);
        due("nothing", x.pass(1), 0);
        due("hours", x.count(0), 1);
        for (int k = 0; k < 100; k++) x.pass(99);
        due("hours", x.count(0), 9901);
        due("99 more", x.pass(99), NOT_POSSIBLE);
        due("bad value first", x.pass(100), BAD_VALUE);
        due("98 more", x.pass(98), 0);
        due("hours", x.count(0), 9999);
        due("one more", x.pass(1), NOT_POSSIBLE);
        due("hours stay", x.count(0), 9999);
        x.crew(1, 0);
        x.stand(3, 1, 0, NONE);
        due("what-ifs know no bound", x.allIn(), 5);
        due("nor does another crew", x.withCrew(9), 5);
        due("nor does the dock", x.leastDock(), 1);

        begin("7 pass, built and dismantled");
        x.crew(2, 0);
        x.crew(2, 0);
        for (int s = 0; s < 3; s++) x.stand(4, 1, 0, NONE);
        due("hours 0 to 2", x.pass(3), 0);
        due("hour 3", x.pass(1), 2);
        due("hours 4 and 5", x.pass(2), 1);
        x.end();
        due("hour 6", x.pass(1), 2);
        due("hour 7", x.pass(9), 1);
        due("all gone", x.pass(9), 0);
    }

    private void docks() {
        begin("docks");
        x.stand(1, 12, 0, NONE);
        x.stand(1, 9, 0, NONE);
        x.stand(1, 3, 0, NONE);
        x.pass(1);
        states("one without room holds up all behind it", 1, 0, 0);
        due("meters", x.count(10), 12);
        x.pass(1);
        states("hour 1", 1, 0, 0);
        x.pass(1);
        states("it leaves before others come", 2, 1, 1);
        due("meters", x.count(10), 12);
        x.pass(1);
        states("hour 3", 2, 1, 1);
        x.pass(1);
        states("hour 4", 2, 2, 2);
        due("meters", x.count(10), 0);
        begin("docks, exactly full");
        x.stand(1, 12, 0, NONE);
        x.stand(1, 8, 0, NONE);
        x.stand(1, 1, 0, NONE);
        x.set(HallBuilds.UNLOAD, 1);
        x.pass(1);
        states("full", 1, 1, 0);
        x.pass(1);
        states("an hour each", 2, 2, 1);
    }

    private void crewsTakeStands() {
        begin("crews take stands");
        x.crew(1, 0);
        x.crew(9, 0);
        x.stand(2, 1, 0, NONE);
        x.stand(9, 1, 0, 0);
        x.stand(9, 1, 0, NONE);
        x.stand(5, 1, 0, NONE);
        due("hours 0 and 1", x.pass(2), 0);
        due("crew 1 passes over the stand whose base is not built", x.pass(1), 1);
        states("hour 2", 3, 2, 4, 2);
        due("crew 0", x.ofStand(0, 7), 0);
        due("crew 0 has", x.ofCrew(0, 2), 0);
        due("crew 1 has none any more", x.ofCrew(1, 2), NONE);
        // The base is built in hour 3 by crew 0, behind the taking of stands.
        due("hour 3", x.pass(1), 2);
        states("hour 3", 4, 2, 4, 4);
        due("hour 4", x.pass(1), 0);
        due("the lower crew takes first", x.ofStand(1, 7), 0);
        due("crew 1 has nothing", x.ofCrew(1, 2), NONE);
    }

    private void power() {
        begin("power, 10 load");
        int[] powers = {40, 30, 20, 25, 99, 0, 30, 21, 0};
        for (int power : powers) x.stand(1, 1, power, NONE);
        x.crew(9, 0);
        x.pass(9);
        int[] phases = {0, 1, 2, 2, NONE, 1, 1};
        for (int s = 0; s < phases.length; s++) due("phase of " + s, x.ofStand(s, 6), phases[s]);
        due("load 0", x.load(0), 40);
        due("load 1", x.load(1), 60);
        due("load 2", x.load(2), 45);
        due("load -1", x.load(-1), NO_SUCH);
        due("load 3", x.load(3), NO_SUCH);
        due("load far above", x.load(MOST), NO_SUCH);
        due("load far below", x.load(LEAST), NO_SUCH);
        x.pass(1);
        due("61 would be too much", x.ofStand(7, 6), NONE);
        x.set(HallBuilds.PHASE, 39);
        due("what is on phases stays", x.load(1), 60);
        x.pass(1);
        due("a power of 0 where the load is too much already", x.ofStand(8, 6), NONE);
        due("without power, and of a power above 0", x.count(14), 2);
        x.set(HallBuilds.PHASE, 999);
        x.pass(5);
        due("none later", x.ofStand(4, 6), NONE);
        x.end();
        x.pass(2);
        states("8 and 7 are gone", 4, 4, 4, 4, 4, 4, 4, 6, 6);
        due("count of those that are built", x.count(14), 1);
        due("they were on no phase", x.load(0) + x.load(1) + x.load(2), 145);
        x.pass(1);
        due("6 is taken off", x.load(1), 30);
        x.pass(3);
        due("3 is taken off", x.load(2), 20);
        due("and from its phase", x.ofStand(3, 6), NONE);

        begin("power with the first settings");
        x.stand(1, 1, 60, NONE);
        x.stand(1, 1, 61, NONE);
        x.crew(9, 0);
        x.pass(4);
        due("as much as the phase has", x.ofStand(0, 6), 0);
        due("one more", x.ofStand(1, 6), NONE);
    }

    private void dismantling() {
        begin("dismantling");
        x.crew(1, 7);
        x.crew(3, 2);
        x.stand(5, 1, 20, NONE);
        x.stand(7, 1, 10, 0);
        x.stand(4, 1, 30, 0);
        x.pass(15);
        states("built", 4, 4, 4);
        due("stands on 0", x.ofStand(0, 8), 6);
        // 2 was built by crew 1 (hours 7 and 8), 1 by crew 0 (hours 7 to 13).
        due("crew 0 works", x.ofCrew(0, 3), 12);
        due("crew 1 works", x.ofCrew(1, 3), 2);
        x.end();
        due("load of 2", x.load(1), 30);
        due("hour 15", x.pass(1), 0);
        states("the greatest numbers first", 4, 5, 5);
        due("crew on 2", x.ofStand(2, 7), 0);
        due("crew on 1", x.ofStand(1, 7), 1);
        due("half of 4", x.ofStand(2, 5), 1);
        due("half of 7, rounded up", x.ofStand(1, 5), 1);
        due("power is taken off when it begins", x.load(1) + x.load(2), 0);
        due("still on 0", x.ofStand(0, 8), 6);
        due("hour 16", x.pass(1), 2);
        due("nothing on 0", x.ofStand(0, 8), 0);
        due("not yet begun", x.ofStand(0, 4), 4);
        due("hour 17", x.pass(1), 0);
        due("half of 5, rounded up", x.ofStand(0, 5), 2);
        due("hours 18 and 19", x.pass(2), 1);
        states("gone", 6, 6, 6);
        due("crew 0 dismantled", x.ofCrew(0, 6), 2);
        due("crew 1 dismantled", x.ofCrew(1, 6), 1);
        // 1 in hour 16 and 2 in hour 16 lose nothing, 0 in hour 19 neither.
        due("lost", x.count(12), 0);
        due("cost", x.count(13), 17 * 7 + 4 * 2);
        due("spent on 0", x.ofStand(0, 9), 8);
    }

    private void whatOfStand() {
        begin("8 ofStand");
        x.stand(10, 20, 35, NONE);
        x.stand(7, 1, 99, 0);
        x.stand(3, 1, 0, 0);
        x.stand(3, 2, 1, 1);
        x.crew(4, 1);
        int[] told = {10, 20, 35, NONE, 0, 10, NONE, NONE, 6, 0};
        for (int what = 0; what < 10; what++) due("told " + what, x.ofStand(0, what), told[what]);
        due("base", x.ofStand(3, 3), 1);
        due("on 1", x.ofStand(1, 8), 8);
        due("on 3", x.ofStand(3, 8), 0);
        x.pass(3);
        int[] building = {10, 20, 35, NONE, 3, 6, NONE, 0, 6, 1};
        for (int what = 0; what < 10; what++) due("being built " + what, x.ofStand(0, what), building[what]);
        x.pass(2);
        int[] built = {10, 20, 35, NONE, 4, 0, 0, NONE, 6, 3};
        for (int what = 0; what < 10; what++) due("built " + what, x.ofStand(0, what), built[what]);
        x.end();
        due("those that are gone stand on nothing", x.ofStand(0, 8), 0);
        due("not begun", x.ofStand(0, 5), 0);
        x.pass(1);
        int[] dismantling = {10, 20, 35, NONE, 5, 1, NONE, 0, 0, 4};
        for (int what = 0; what < 10; what++) due("being dismantled " + what, x.ofStand(0, what), dismantling[what]);
        x.pass(1);
        int[] gone = {10, 20, 35, NONE, 6, 0, NONE, NONE, 0, 5};
        for (int what = 0; what < 10; what++) due("gone " + what, x.ofStand(0, what), gone[what]);
        due("stand -1", x.ofStand(-1, 0), NO_SUCH);
        due("stand 4", x.ofStand(4, 0), NO_SUCH);
        due("stand far above", x.ofStand(MOST, 0), NO_SUCH);
        due("stand far below", x.ofStand(LEAST, 0), NO_SUCH);
        due("no such stand first", x.ofStand(4, 10), NO_SUCH);
        due("what -1", x.ofStand(0, -1), BAD_VALUE);
        due("what 10", x.ofStand(0, 10), BAD_VALUE);
        due("what far above", x.ofStand(0, MOST), BAD_VALUE);
        begin("8 ofStand of the 20th");
        for (int s = 0; s < 20; s++) x.stand(1, 1, 1, s == 19 ? 0 : NONE);
        due("set", x.ofStand(0, 8), 1 << 19);
    }

    private void whatOfCrew() {
        begin("9 ofCrew");
        x.crew(9, 99);
        x.crew(2, 5);
        x.stand(5, 1, 0, NONE);
        x.stand(5, 1, 0, NONE);
        int[] first = {9, 99, NONE, 0, 0, 0, 0};
        for (int what = 0; what < 7; what++) due("new " + what, x.ofCrew(0, what), first[what]);
        x.pass(4);
        int[] fast = {9, 99, NONE, 1, 99, 1, 0};
        int[] slow = {2, 5, 1, 2, 10, 0, 0};
        for (int what = 0; what < 7; what++) due("fast " + what, x.ofCrew(0, what), fast[what]);
        for (int what = 0; what < 7; what++) due("slow " + what, x.ofCrew(1, what), slow[what]);
        x.pass(1);
        x.end();
        x.pass(1);
        int[] fastThen = {9, 99, NONE, 2, 198, 1, 1};
        int[] slowThen = {2, 5, 0, 4, 20, 1, 0};
        for (int what = 0; what < 7; what++) due("fast then " + what, x.ofCrew(0, what), fastThen[what]);
        for (int what = 0; what < 7; what++) due("slow then " + what, x.ofCrew(1, what), slowThen[what]);
        due("crew -1", x.ofCrew(-1, 0), NO_SUCH);
        due("crew 2", x.ofCrew(2, 0), NO_SUCH);
        due("crew far above", x.ofCrew(MOST, 9), NO_SUCH);
        due("crew far below", x.ofCrew(LEAST, 9), NO_SUCH);
        due("what -1", x.ofCrew(0, -1), BAD_VALUE);
        due("what 7", x.ofCrew(0, 7), BAD_VALUE);
        due("what far below", x.ofCrew(0, LEAST), BAD_VALUE);
    }

    private void counts() {
        begin("11 count");
        fiveStands();
        answersOfCount("five stands", 0, 6, 5, 1, 1, 1, 1, 1, 1, 0, 0, 15, 0, 0, 30, 0, 20, 3, 60, 0, 6);
        Check.putText(x, "e;t1");
        due("pad", x.count(18), 4);
        x.carryOut();
        answersOfCount("behind the end", 0, 7, 5, 1, 0, 0, 0, 0, 0, 0, 5, 0, 1, 0, 40, 0, 20, 3, 60, 0, 6);
        due("-1", x.count(-1), BAD_VALUE);
        due("20", x.count(20), BAD_VALUE);
        due("far above", x.count(MOST), BAD_VALUE);
        due("far below", x.count(LEAST), BAD_VALUE);
        begin("11 count of being dismantled");
        x.crew(1, 1);
        x.stand(3, 1, 1, NONE);
        x.pass(5);
        x.end();
        x.pass(1);
        answersOfCount("dismantled", 3, 0, 0, 0, 0, 0, 1, 0);
    }

    private void reasonsToWait() {
        begin("12 waitsFor");
        x.crew(1, 0);
        x.stand(2, 1, 0, NONE);
        x.stand(1, 1, 0, 0);
        x.stand(1, 1, 0, NONE);
        x.stand(1, 20, 0, 1);
        due("for the dock", x.waitsFor(0), 1);
        x.pass(1);
        due("for being unloaded", x.waitsFor(0), 2);
        due("for the dock", x.waitsFor(3), 1);
        x.pass(2);
        due("being built", x.waitsFor(0), 0);
        due("for its base", x.waitsFor(1), 3);
        due("for a crew", x.waitsFor(2), 4);
        x.pass(1);
        due("built", x.waitsFor(0), 0);
        due("for a crew, its base is built", x.waitsFor(1), 4);
        x.pass(1);
        due("1 is built", x.ofStand(1, 4), 4);
        due("on a base, built", x.waitsFor(1), 0);
        x.end();
        due("for those that stand on it", x.waitsFor(0), 5);
        due("for a crew to dismantle it, as what stood on it is gone", x.waitsFor(1), 4);
        due("gone", x.waitsFor(2), 0);
        due("gone", x.waitsFor(3), 0);
        x.pass(1);
        due("gone by being dismantled", x.waitsFor(1), 0);
        due("for a crew", x.waitsFor(0), 4);
        x.pass(1);
        due("gone in an hour", x.waitsFor(0), 0);
        due("-1", x.waitsFor(-1), NO_SUCH);
        due("4", x.waitsFor(4), NO_SUCH);
        due("far above", x.waitsFor(MOST), NO_SUCH);
        due("far below", x.waitsFor(LEAST), NO_SUCH);
        begin("12 waitsFor, being dismantled");
        x.crew(1, 0);
        x.stand(4, 1, 0, NONE);
        x.pass(6);
        x.end();
        x.pass(1);
        due("state", x.ofStand(0, 4), 5);
        due("being dismantled", x.waitsFor(0), 0);
    }

    private void untilAllIn() {
        begin("13 allIn");
        x.stand(3, 1, 0, NONE);
        due("no crew", x.allIn(), NONE);
        x.crew(1, 0);
        due("2 hours at the dock, 3 of work", x.allIn(), 5);
        x.pass(4);
        due("the last hour", x.allIn(), 1);
        due("nothing changes", x.count(0), 4);
        x.pass(1);
        due("all built", x.allIn(), 0);
        x.end();
        due("half of it", x.allIn(), 2);
        x.pass(2);
        due("all gone", x.allIn(), 0);
        begin("13 allIn, the end");
        x.stand(3, 1, 0, NONE);
        x.end();
        due("gone at once", x.allIn(), 0);
        begin("13 allIn, built and no crew");
        untilExactly(1000);
        due("1000", x.allIn(), 1000);
        // Ten stands of 99 hours and one of 8: five and five of 99, and then the one of 8.
        due("with another crew of the same speed", x.withCrew(1), 2 + 5 * 99 + 8);
        x.stand(1, 1, 0, NONE);
        due("1001", x.allIn(), NONE);
        x.pass(1);
        due("1000 again", x.allIn(), 1000);
        due("no more is changed", x.count(0), 1);
    }

    /** A crew of speed 1 whose work takes, with the two hours at the dock, this many hours. */
    private void untilExactly(int hours) {
        x.crew(1, 0);
        int rest = hours - 2;
        for (; rest > 0; rest -= Math.min(rest, 99)) x.stand(Math.min(rest, 99), 1, 0, NONE);
    }

    private void withAnotherCrew() {
        begin("14 withCrew");
        for (int s = 0; s < 2; s++) x.stand(6, 1, 0, NONE);
        due("0", x.withCrew(0), BAD_VALUE);
        due("10", x.withCrew(10), BAD_VALUE);
        due("far above", x.withCrew(MOST), BAD_VALUE);
        due("far below", x.withCrew(LEAST), BAD_VALUE);
        due("1", x.withCrew(1), 14);
        due("9", x.withCrew(9), 4);
        due("none came", x.count(2), 0);
        due("no change", x.count(19), 2);
        x.crew(1, 0);
        due("it comes behind the others", x.withCrew(9), 8);
        due("alone", x.allIn(), 14);
        for (int c = 1; c < 6; c++) x.crew(9, 0);
        due("a seventh", x.withCrew(1), TOO_MANY);
        due("a bad value first", x.withCrew(0), BAD_VALUE);
        begin("14 withCrew, too long");
        for (int s = 0; s < 11; s++) x.stand(99, 1, 0, NONE);
        due("1089 hours of work", x.withCrew(1), NONE);
        due("half of them", x.withCrew(2), 552);
        x.end();
        due("all gone", x.withCrew(1), 0);
    }

    private void leastDocks() {
        begin("15 leastDock");
        x.stand(9, 12, 0, NONE);
        due("no crew", x.leastDock(), NONE);
        x.crew(1, 0);
        due("one lorry", x.leastDock(), 12);
        x.stand(9, 8, 0, NONE);
        due("the second one may come later", x.leastDock(), 12);
        x.crew(1, 0);
        due("now both at once", x.leastDock(), 20);
        due("the setting stays", x.count(15), 20);
        due("no change", x.count(19), 4);
        x.set(HallBuilds.DOCK, 1);
        due("whatever the setting is", x.leastDock(), 20);
        x.pass(5);
        due("none has come", x.count(3), 2);
        x.set(HallBuilds.DOCK, 20);
        x.pass(1);
        due("all are there", x.leastDock(), 1);
        x.end();
        due("all gone", x.leastDock(), 1);
        begin("15 leastDock, all of it");
        for (int c = 0; c < 3; c++) x.crew(9, 0);
        for (int s = 0; s < 3; s++) x.stand(9, 20, 0, NONE);
        due("60", x.leastDock(), 60);
        begin("15 leastDock, too long");
        untilExactly(1000);
        due("1000", x.leastDock(), 1);
        x.stand(1, 1, 0, NONE);
        due("1001", x.leastDock(), NONE);
    }

    private void characters() {
        begin("16 put, 17 wipe");
        due("none", x.put(0), BAD_VALUE);
        due("one", x.put('e'), 1);
        due("code 33", x.put(33), 2);
        due("code 126", x.put(126), 3);
        due("code 32", x.put(32), BAD_VALUE);
        due("code 127", x.put(127), BAD_VALUE);
        due("code 255", x.put(255), BAD_VALUE);
        due("code 160", x.put(160), BAD_VALUE);
        due("all ones", x.put(-1), BAD_VALUE);
        due("least", x.put(Long.MIN_VALUE), BAD_VALUE);
        due("a bit above a 0", x.put('e' | 1L << 16), BAD_VALUE);
        due("a character above a 0", x.put('e' | (long) 'e' << 16), BAD_VALUE);
        due("the highest bit above a 0", x.put('e' | 1L << 63), BAD_VALUE);
        due("a 0 below", x.put((long) 'e' << 8), BAD_VALUE);
        due("one bad code of two", x.put('e' | 32L << 8), BAD_VALUE);
        due("one bad code of eight", x.put(Check.packed("e;e;e;e") | 127L << 56), BAD_VALUE);
        due("eight", x.put(Check.packed("abcdefgh")), 11);
        due("length", x.count(18), 11);
        due("no change", x.count(19), 0);
        due("wipe", x.wipe(), 11);
        due("empty", x.count(18), 0);
        due("wipe again", x.wipe(), 0);
        for (int k = 1; k < 10; k++) due("up to 72", x.put(Check.packed("eeeeeeee")), 8 * k);
        due("79", x.put(Check.packed("eeeeeee")), 79);
        due("two more", x.put(Check.packed("ee")), TOO_MANY);
        due("bad code first", x.put(32), BAD_VALUE);
        due("no character first", x.put(0), BAD_VALUE);
        due("80", x.put('e'), 80);
        due("81", x.put('e'), TOO_MANY);
        due("88", x.put(Check.packed("eeeeeeee")), TOO_MANY);
        due("length", x.count(18), 80);
        due("wipe", x.wipe(), 80);
        Check.putText(x, "t12");
        due("the lowest bits are the last character", x.carryOut(), 1);
        due("12 hours", x.count(0), 12);
    }

    private void faultOf(String text, int wanted) {
        x.wipe();
        Check.putText(x, text);
        due("fault of " + text, x.fault(), wanted);
    }

    private void faults() {
        begin("18 fault");
        faultOf("", 0);
        String[] good = {"e", "e;e", "t0", "t9", "t10", "t99", "d0", "d60", "c1$0", "c9$99", "+0,0,0", "+1,2,3",
            "+99,99,99", "+10,20,30^0", "+1,1,1^99", "+1,1,1^9;c3$4;d20;t5;e"};
        for (String text : good) {
            faultOf(text, NONE);
            faultOf(text + ";", text.length() + 1);
            faultOf(text + ";;", text.length() + 1);
            faultOf(text + "x", text.length());
            faultOf("x" + text, 0);
        }
        faultOf("t", 1);
        faultOf("d", 1);
        faultOf("c", 1);
        faultOf("c1", 2);
        faultOf("c1$", 3);
        faultOf("c0$1", 1);
        faultOf("c10$1", 2);
        faultOf("c1,1", 2);
        faultOf("c1$100", 5);
        faultOf("+", 1);
        faultOf("+1", 2);
        faultOf("+1,", 3);
        faultOf("+1,2", 4);
        faultOf("+1,2,", 5);
        faultOf("+1,2,3^", 7);
        faultOf("+1,2;e", 4);
        faultOf("+1,2,3,4", 6);
        faultOf("+1,2,3^4^5", 8);
        faultOf("+1,2^3", 4);
        faultOf("+,", 1);
        faultOf("+-1,", 1);
        faultOf("+01,2,3", 2);
        faultOf("+00,2,3", 2);
        faultOf("t100", 3);
        faultOf("t007", 2);
        faultOf("d999", 3);
        faultOf("t1:", 2);
        faultOf("t:", 1);
        faultOf("t/", 1);
        faultOf("t1/", 2);
        faultOf("e1", 1);
        faultOf("ee", 1);
        faultOf("E", 0);
        faultOf(";e", 0);
        faultOf("e;x", 2);
        faultOf("1", 0);
        faultOf("e;e;e;e;e;e;e;e;e;e;e;e;e;e;e;e;e;e;e;e;e;e;e;e;e;e;e;e;e;e;e;e;e;e;e;e;e;e;e;e;", 80);
        faultOf("e;e;e;e;e;e;e;e;e;e;e;e;e;e;e;e;e;e;e;e;e;e;e;e;e;e;e;e;e;e;e;e;e;e;e;e;e;e;e;e", NONE);
        faultOf("e;e;e;e;e;e;e;e;e;e;e;e;e;e;e;e;e;e;e;e;e;e;e;e;e;e;e;e;e;e;e;e;e;e;e;e;e;e;t10", NONE);
        x.wipe();
        due("no rest of what was there", x.fault(), 0);
        due("no change", x.count(19), 0);
    }

    private void ordersCarriedOut() {
        begin("19 carryOut");
        Check.putText(x, "+10,12,40;+6,8,30^0;c4$10;d60;t9;e");
        due("orders", x.carryOut(), 6);
        due("pad", x.count(18), 0);
        due("one change", x.count(19), 1);
        due("hours", x.ofStand(0, 0), 10);
        due("length", x.ofStand(0, 1), 12);
        due("power", x.ofStand(0, 2), 40);
        due("no base", x.ofStand(0, 3), NONE);
        due("base", x.ofStand(1, 3), 0);
        due("speed", x.ofCrew(0, 0), 4);
        due("rate", x.ofCrew(0, 1), 10);
        due("dock", x.count(15), 60);
        due("hours", x.count(0), 9);
        due("ended", x.count(11), 1);
        due("undo", x.undo(), 0);
        due("nothing is left", x.count(1), 0);
        due("the pad stays empty", x.count(18), 0);

        begin("19 carryOut up to an error");
        Check.putText(x, "t1;t1;t0;t1");
        due("two", x.carryOut(), 2);
        due("hours", x.count(0), 2);
        due("pad", x.count(18), 0);
        String[] wrong = {"+0,1,1", "+1,1,1^0", "+1,1,1^99", "d0", "d61", "t0", "c1$1;c1$1;c1$1;c1$1;c1$1;c1$1;c1$1", "e;e"};
        int[] carriedOut = {0, 0, 0, 0, 0, 0, 6, 1};
        for (int k = 0; k < wrong.length; k++) {
            Check.putText(x, wrong[k]);
            due(wrong[k], x.carryOut(), carriedOut[k]);
        }
        due("changes, also if none is carried out", x.count(19), 6);
        due("e;e undone", x.undo(), 5);
        due("not ended", x.count(11), 0);
        due("crews undone", x.undo(), 4);
        due("no crew", x.count(2), 0);

        begin("19 carryOut with a fault");
        x.pass(1);
        Check.putText(x, "t1;");
        due("fault", x.carryOut(), BAD_TEXT);
        due("the pad stays", x.count(18), 3);
        due("no change", x.count(19), 1);
        due("no hour", x.count(0), 1);
        x.put('e');
        due("then", x.carryOut(), 2);
        due("empty", x.carryOut(), BAD_TEXT);
    }

    private void undoing() {
        begin("20 undo");
        due("nothing", x.undo(), NOT_POSSIBLE);
        for (int hours = 1; hours <= 9; hours++) x.pass(hours);
        due("six at most", x.count(19), 6);
        x.pass(0);
        x.crew(0, 0);
        due("errors record nothing", x.count(19), 6);
        int[] before = {36, 28, 21, 15, 10, 6};
        for (int k = 0; k < 6; k++) {
            due("left", x.undo(), 5 - k);
            due("hours", x.count(0), before[k]);
        }
        due("none left", x.undo(), NOT_POSSIBLE);
        due("hours stay", x.count(0), 6);
        due("a change again", x.pass(1), 0);
        due("one", x.count(19), 1);
        due("undo", x.undo(), 0);

        begin("20 undo of each change");
        x.set(HallBuilds.PHASE, 5);
        x.undo();
        due("set", x.count(17), 60);
        x.crew(9, 3);
        x.undo();
        due("crew", x.count(2), 0);
        x.stand(1, 1, 1, NONE);
        x.stand(2, 1, 1, NONE);
        x.undo();
        due("stand", x.count(1), 1);
        due("the same number again", x.stand(3, 1, 1, 0), 1);
        due("with its own hours", x.ofStand(1, 0), 3);
        x.crew(9, 3);
        x.pass(3);
        due("built", x.ofStand(0, 4), 4);
        x.undo();
        states("pass", 0, 0);
        due("crew hours", x.ofCrew(0, 3), 0);
        due("load", x.load(0), 0);
        x.pass(3);
        x.end();
        x.undo();
        states("end", 4, 2);
        due("load", x.load(0), 1);
        x.end();
        x.pass(1);
        x.pass(1);
        x.undo();
        x.undo();
        states("dismantled", 4, 6);
        due("a setting with its own value is a change", x.set(HallBuilds.DOCK, 20), 20);

        begin("20 undo leaves the pad and the slots");
        x.stand(1, 1, 1, NONE);
        x.save(0);
        x.put('e');
        x.undo();
        due("pad", x.count(18), 1);
        due("slot", x.restore(0), 1);
        due("history is not what was saved", x.count(19), 1);
    }

    private void saving() {
        begin("21 save, 22 restore");
        for (int slot : new int[] {-1, 2, LEAST, MOST}) {
            due("save", x.save(slot), BAD_VALUE);
            due("restore", x.restore(slot), BAD_VALUE);
        }
        due("nothing saved", x.restore(1), NOT_POSSIBLE);
        due("an empty hall", x.save(1), 0);
        due("the other slot", x.restore(0), NOT_POSSIBLE);
        due("no change", x.count(19), 0);
        x.set(HallBuilds.UNLOAD, 1);
        x.crew(9, 9);
        x.stand(9, 9, 9, NONE);
        x.stand(9, 9, 9, 0);
        x.pass(2);
        due("two stands", x.save(0), 2);
        due("loads", x.load(0), 9);
        x.put('t');
        x.end();
        x.pass(9);
        due("gone", x.count(9), 2);
        due("lost or not", x.count(12), 0);
        due("restore", x.restore(0), 2);
        due("a change", x.count(19), 6);
        states("restored", 4, 2);
        due("loads", x.load(0), 9);
        due("hours", x.count(0), 2);
        due("not ended", x.count(11), 0);
        due("settings", x.count(16), 1);
        due("cost", x.count(13), 9);
        due("the pad is not restored", x.count(18), 1);
        x.pass(5);
        due("the slot keeps it", x.restore(0), 2);
        due("hours", x.count(0), 2);
        due("the empty hall", x.restore(1), 0);
        due("settings", x.count(16), 2);
        due("undo of restore", x.undo(), 5);
        due("stands", x.count(1), 2);
        x.restore(1);
        due("overwritten", x.save(0), 0);
        due("by this", x.restore(0), 0);
        due("stands", x.count(1), 0);
    }
}
