/** The what-ifs are held to what comes of it when the hours do pass, in many unlike halls. */
final class WhatIfSentences extends Sentences {
    private static final int HALLS = 400;
    private static final int MOST_HOURS = 1000;

    WhatIfSentences(Check check, Document document) {
        super(check, document);
    }

    void run() {
        allIn();
        withCrew();
        leastDock();
    }

    /** The k-th hall: the halls differ in all on which hours depend. */
    private void build(int k) {
        x = new HallBuilds();
        x.set(DOCK, k % 10 == 9 ? 19 : 20 + 7 * k % 41);
        x.set(UNLOAD, 1 + k % 9);
        for (int c = 0; c <= k % 5; c++) x.crew(1 + (4 * k + 5 * c) % 9, 90 + c);
        for (int s = 0; s <= (7 * k + 3) % 20; s++) {
            boolean alone = s == 0 || (k + s) % 3 > 0;
            x.stand(1 + (13 * k + 29 * s) % 99, 1 + (11 * k + 7 * s) % 20, 99 - s, alone ? NONE : (5 * k + s) % s);
        }
        x.pass(1 + 5 * k % 14);
        if (k % 4 != 3) return;
        x.pass(20 + k);
        x.end();
        x.pass(1 + k % 2);
    }

    private boolean allAreIn() {
        int built = x.count(11) == 0 ? x.count(7) : 0;
        return x.count(9) + built == x.count(1);
    }

    /** Lets the hours pass, and looks an hour before they are over and then. */
    private void takes(String what, int hours) {
        if (hours == NONE) {
            goTo(x.count(0) + MOST_HOURS);
            due(what + " = NONE, are all in behind 1000 hours", allAreIn() ? 1 : 0, 0);
            return;
        }
        due(what + " is no error", hours >= 0 ? 1 : 0, 1);
        if (hours > 0) {
            goTo(x.count(0) + hours - 1);
            due(what + " = " + hours + ", are all in an hour before", allAreIn() ? 1 : 0, 0);
            x.pass(1);
        }
        due(what + " = " + hours + ", are all in then", allAreIn() ? 1 : 0, 1);
    }

    private void allIn() {
        holds("Promise 13", "Tells in how many hours all stands that there are will be built or gone, if only time passes (behind the end"
            + " of the fair: gone).");
        for (int k = 0; k < HALLS; k++) {
            build(k);
            takes("hall " + k + ", allIn()", x.allIn());
            due("hall " + k + ", allIn() behind it", x.allIn() == NONE || x.allIn() == 0 ? 1 : 0, 1);
        }
    }

    private void withCrew() {
        holds("Promise 14", "Tells in how many hours that would be with another crew of a speed, that came now.");
        for (int k = 0; k < HALLS; k++) {
            build(k);
            int speed = 1 + (k + 6) % 9;
            int hours = x.withCrew(speed);
            x.crew(speed, 7);
            takes("hall " + k + ", withCrew(" + speed + ")", hours);
        }
    }

    private void leastDock() {
        holds("Promise 15", "Finds the least DOCK, 1 to 60, by which it would take no more hours than with 60 until all are built or gone.");
        for (int k = 0; k < HALLS; k++) {
            build(k);
            due("hall " + k + ", leastDock()", x.leastDock(), leastOfAll());
        }
    }

    private int leastOfAll() {
        x.set(DOCK, 60);
        int most = x.allIn();
        for (int dock = 1; dock <= 60 && most != NONE; dock++) {
            x.set(DOCK, dock);
            int hours = x.allIn();
            if (hours != NONE && hours <= most) return dock;
        }
        return NONE;
    }
}
