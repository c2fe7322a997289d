/** What tests of single sentences share: each of them quotes its sentence, and begins with a new hall. */
abstract class Sentences {
    static final int NO_SUCH = -1, BAD_VALUE = -2, BAD_TEXT = -3, TOO_MANY = -4, NOT_POSSIBLE = -5, NONE = -6;
    static final int LEAST = Integer.MIN_VALUE, MOST = Integer.MAX_VALUE;
    static final int DOCK = 0, UNLOAD = 1, PHASE = 2;
    static final int TOLD = 0, AT_DOCK = 1, READY = 2, BUILDING = 3, BUILT = 4, DISMANTLING = 5, GONE = 6;

    private final Check check;
    private final Document document;
    private String sentence = "";
    HallBuilds x;

    Sentences(Check check, Document document) {
        this.check = check;
        this.document = document;
    }

    /** The sentence that the calls behind this line hold. */
    void holds(String title, String words) {
        sentence = title + " \"" + words + "\"";
        x = new HallBuilds();
        if (Document.isThere()) check.due(sentence + " stands in the document", document.quote(title, words) ? 1 : 0, 1);
    }

    /** A further sentence that the same calls hold. */
    void holdsToo(String title, String words) {
        HallBuilds kept = x;
        holds(title, words);
        x = kept;
    }

    void due(String what, long got, long want) {
        check.due(sentence + ": " + what, got, want);
    }

    void same(String what, String got, String want) {
        due(what + " is [" + got + "] where [" + want + "] is due", got.equals(want) ? 1 : 0, 1);
    }

    void states(String when, int... wanted) {
        for (int s = 0; s < wanted.length; s++) due(when + ", state of " + s, x.ofStand(s, 4), wanted[s]);
    }

    void counts(String when, int from, int... wanted) {
        for (int k = 0; k < wanted.length; k++) due(when + ", count(" + (from + k) + ")", x.count(from + k), wanted[k]);
    }

    void stands(int howMany) {
        for (int s = 0; s < howMany; s++) x.stand(1, 1, 0, NONE);
    }

    void crews(int howMany) {
        for (int c = 0; c < howMany; c++) x.crew(1, 0);
    }

    /** Lets any number of hours pass. */
    void goTo(int hour) {
        for (int rest = hour - x.count(0); rest > 0; rest -= Math.min(rest, 99)) x.pass(Math.min(rest, 99));
    }

    void text(String text) {
        x.wipe();
        Check.putText(x, text);
    }

    int carryOut(String text) {
        text(text);
        return x.carryOut();
    }

    /** All that a hall tells, in one line, but for how many changes can be undone. */
    static String view(HallBuilds hall) {
        StringBuilder all = new StringBuilder();
        for (int what = 0; what < 19; what++) all.append(hall.count(what)).append(' ');
        for (int s = 0; s < hall.count(1); s++) {
            all.append("/ ");
            for (int what = 0; what < 10; what++) all.append(hall.ofStand(s, what)).append(' ');
            all.append(hall.waitsFor(s)).append(' ');
        }
        for (int c = 0; c < hall.count(2); c++) {
            all.append("| ");
            for (int what = 0; what < 7; what++) all.append(hall.ofCrew(c, what)).append(' ');
        }
        for (int phase = 0; phase < 3; phase++) all.append(hall.load(phase)).append(' ');
        all.append(hall.allIn()).append(' ').append(hall.withCrew(5)).append(' ').append(hall.leastDock());
        return all.append(' ').append(hall.fault()).toString();
    }
}
