/** Random runs of at most 512 calls, each answered by HallBuilds and by PlainHall alike. */
public final class ModelTest {
    private static final int RUNS = 5000;
    private static final int MOST_CALLS = 512;
    // A text of four orders is put with this many calls at most.
    private static final int CALLS_OF_A_TEXT = 10;
    private static final int CALLS_OF_A_LOOK = 300;
    private static final int NONE = -6;

    private final Check check = new Check("ModelTest");
    private long seed;
    private HallBuilds hall;
    private PlainHall plain;
    private int asked;
    // How a run likes to go: with how many hours at once, and how often stands, orders and the end come.
    private int longHours, standsOften, textsOften, endOften;
    private String call;

    public static void main(String[] args) {
        ModelTest test = new ModelTest();
        for (int run = 1; run <= RUNS && !test.check.isWrong(); run++) test.run(run);
        test.check.close();
    }

    private void run(int run) {
        seed = run * 7919L + 17;
        hall = new HallBuilds();
        plain = new PlainHall();
        longHours = below(4) == 0 ? 99 : 1 + below(6);
        standsOften = 5 + below(40);
        textsOften = below(40);
        endOften = below(3) == 0 ? 6 : below(3);
        asked = 0;
        int calls = run % 50 == 0 ? MOST_CALLS : 20 + below(130);
        int glances = below(4);
        StringBuilder story = new StringBuilder("run " + run + ":");
        for (int k = 0; k < calls && asked + CALLS_OF_A_TEXT + glances <= MOST_CALLS && !check.isWrong(); k++) {
            long[] answers = oneCall();
            story.append('\n').append(call).append(" = ").append(answers[1]);
            due(call, answers[0], answers[1]);
            for (int more = 0; more < glances; more++) glance();
        }
        if (asked + CALLS_OF_A_LOOK <= MOST_CALLS) lookAround();
        if (check.isWrong()) System.out.println(story);
    }

    private void due(String what, long got, long want) {
        asked++;
        check.due(what, got, want);
    }

    private int below(int bound) {
        seed = seed * 6364136223846793005L + 1442695040888963407L;
        return (int) ((seed >>> 33) % bound);
    }

    private int between(int least, int most) {
        return least + below(most - least + 1);
    }

    /** Mostly a value of the range, sometimes its ends, sometimes one beside it. */
    private int near(int least, int most) {
        switch (below(40)) {
            case 0: return least - 1;
            case 1: return most + 1;
            case 2: return below(2) == 0 ? Integer.MIN_VALUE : Integer.MAX_VALUE;
            case 3: case 4: return least;
            case 5: case 6: return most;
            default: return between(least, most);
        }
    }

    private long[] oneCall() {
        int kind = below(100);
        if (kind < standsOften) return aStand();
        switch (below(16)) {
            case 0: return aSetting();
            case 1: case 2: return aCrew();
            case 3: return anEnd();
            case 4: return lossesAndSlots();
            case 5: case 6: return undoing();
            case 7: case 8: return whatIf();
            case 9: return below(60) < textsOften ? aText() : hours();
            case 10: return odd();
            default: return below(90) < textsOften ? aText() : hours();
        }
    }

    private long[] aStand() {
        int hours = below(5) == 0 ? near(1, 99) : between(1, 25);
        int length = near(1, 20);
        int power = below(3) == 0 ? near(0, 99) : between(0, 40);
        int stands = plain.count(1);
        int base = below(2) == 0 || stands == 0 ? NONE : below(15) == 0 ? near(0, stands - 1) : below(stands);
        call = "stand(" + hours + ", " + length + ", " + power + ", " + base + ")";
        return new long[] {hall.stand(hours, length, power, base), plain.stand(hours, length, power, base)};
    }

    private long[] aSetting() {
        int setting = near(0, 2);
        int value = setting == 0 ? near(1, 60) : setting == 1 ? near(1, 9) : below(3) == 0 ? near(1, 999) : between(1, 99);
        call = "set(" + setting + ", " + value + ")";
        return new long[] {hall.set(setting, value), plain.set(setting, value)};
    }

    private long[] aCrew() {
        int speed = below(2) == 0 ? near(1, 9) : between(1, 3);
        int rate = near(0, 99);
        call = "crew(" + speed + ", " + rate + ")";
        return new long[] {hall.crew(speed, rate), plain.crew(speed, rate)};
    }

    private long[] anEnd() {
        if (below(20) >= endOften && plain.count(7) < 4) return hours();
        call = "end()";
        return new long[] {hall.end(), plain.end()};
    }

    private long[] lossesAndSlots() {
        int slot = near(0, 1);
        switch (below(4)) {
            case 0: case 1:
                call = "find()";
                return new long[] {hall.find(), plain.find()};
            case 2:
                call = "save(" + slot + ")";
                return new long[] {hall.save(slot), plain.save(slot)};
            default:
                call = "restore(" + slot + ")";
                return new long[] {hall.restore(slot), plain.restore(slot)};
        }
    }

    private long[] undoing() {
        if (below(3) > 0) return hours();
        call = "undo()";
        return new long[] {hall.undo(), plain.undo()};
    }

    private long[] whatIf() {
        int speed = near(1, 9);
        switch (below(8)) {
            case 0:
                call = "leastDock()";
                return new long[] {hall.leastDock(), plain.leastDock()};
            case 1: case 2: case 3:
                call = "withCrew(" + speed + ")";
                return new long[] {hall.withCrew(speed), plain.withCrew(speed)};
            default:
                call = "allIn()";
                return new long[] {hall.allIn(), plain.allIn()};
        }
    }

    private long[] hours() {
        int hours = below(30) == 0 ? near(1, 99) : between(1, longHours);
        call = "pass(" + hours + ")";
        return new long[] {hall.pass(hours), plain.pass(hours)};
    }

    private long[] odd() {
        int number = near(-8, 30);
        int what = near(-8, 30);
        switch (below(5)) {
            case 0:
                call = "ofStand(" + number + ", " + what + ")";
                return new long[] {hall.ofStand(number, what), plain.ofStand(number, what)};
            case 1:
                call = "ofCrew(" + number + ", " + what + ")";
                return new long[] {hall.ofCrew(number, what), plain.ofCrew(number, what)};
            case 2:
                call = "load(" + what + ")";
                return new long[] {hall.load(what), plain.load(what)};
            case 3:
                call = "count(" + what + ")";
                return new long[] {hall.count(what), plain.count(what)};
            default:
                call = "waitsFor(" + number + ")";
                return new long[] {hall.waitsFor(number), plain.waitsFor(number)};
        }
    }

    private long[] aText() {
        switch (below(10)) {
            case 0:
                call = "wipe()";
                return new long[] {hall.wipe(), plain.wipe()};
            case 1:
                call = "fault()";
                return new long[] {hall.fault(), plain.fault()};
            case 2: case 3:
                call = "carryOut()";
                return new long[] {hall.carryOut(), plain.carryOut()};
            case 4:
                return aPut(someCharacters());
            default:
                return someOrders();
        }
    }

    private long[] aPut(long characters) {
        call = "put(" + characters + ")";
        return new long[] {hall.put(characters), plain.put(characters)};
    }

    private long someCharacters() {
        String signs = "+++,,,^^c$$dte;;;0123456789x/:";
        int count = 1 + below(8);
        long characters = 0;
        for (int k = 0; k < count; k++) {
            int code = below(120) == 0 ? below(256) : signs.charAt(below(signs.length()));
            characters = characters << 8 | code;
        }
        return characters;
    }

    private long[] someOrders() {
        StringBuilder text = new StringBuilder(plain.count(18) > 0 ? ";" : "");
        for (int more = below(4); more >= 0; more--) {
            text.append(anOrder());
            if (more > 0) text.append(';');
        }
        long[] answers = {0, 0};
        for (int from = 0; from < text.length(); from += 8) {
            answers = aPut(Check.packed(text.substring(from, Math.min(from + 8, text.length()))));
            due(call, answers[0], answers[1]);
        }
        if (below(3) == 0) return answers;
        due("fault() of " + text, hall.fault(), plain.fault());
        call = "carryOut() of " + text;
        return new long[] {hall.carryOut(), plain.carryOut()};
    }

    private String anOrder() {
        switch (below(8)) {
            case 0: case 1: case 2:
                return "+" + between(0, 20) + "," + between(0, 21) + "," + between(0, 60)
                    + (below(2) == 0 ? "" : "^" + below(plain.count(1) + 2));
            case 3: return "c" + between(1, 9) + "$" + between(0, 99);
            case 4: return "d" + between(0, 61);
            case 5: return below(4) == 0 ? "e" : "t1";
            default: return "t" + (below(12) == 0 ? 0 : between(1, longHours));
        }
    }

    /** Asks for one thing that is there, or beside it. */
    private void glance() {
        int stand = between(-1, plain.count(1));
        int crew = between(-1, plain.count(2));
        int what = between(-1, 20);
        switch (below(8)) {
            case 0: case 1: case 2:
                due("ofStand(" + stand + ", " + what % 11 + ")", hall.ofStand(stand, what % 11), plain.ofStand(stand, what % 11));
                break;
            case 3:
                due("ofCrew(" + crew + ", " + what % 8 + ")", hall.ofCrew(crew, what % 8), plain.ofCrew(crew, what % 8));
                break;
            case 4:
                due("waitsFor(" + stand + ")", hall.waitsFor(stand), plain.waitsFor(stand));
                break;
            case 5:
                due("load(" + what % 4 + ")", hall.load(what % 4), plain.load(what % 4));
                break;
            default:
                due("count(" + what + ")", hall.count(what), plain.count(what));
        }
    }

    private void lookAround() {
        int stands = plain.count(1);
        int crews = plain.count(2);
        for (int s = 0; s < stands; s++) {
            for (int what = 0; what < 10; what++) {
                due("ofStand(" + s + ", " + what + ")", hall.ofStand(s, what), plain.ofStand(s, what));
            }
            due("waitsFor(" + s + ")", hall.waitsFor(s), plain.waitsFor(s));
        }
        for (int c = 0; c < crews; c++) {
            for (int what = 0; what < 7; what++) {
                due("ofCrew(" + c + ", " + what + ")", hall.ofCrew(c, what), plain.ofCrew(c, what));
            }
        }
        for (int phase = 0; phase < 3; phase++) due("load(" + phase + ")", hall.load(phase), plain.load(phase));
        for (int what = 0; what < 20; what++) due("count(" + what + ")", hall.count(what), plain.count(what));
        due("fault()", hall.fault(), plain.fault());
        due("allIn()", hall.allIn(), plain.allIn());
        due("leastDock()", hall.leastDock(), plain.leastDock());
    }
}
