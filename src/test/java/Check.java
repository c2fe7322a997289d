/** Counts the answers of one test program that are not due. */
final class Check {
    private final String test;
    private int asked;
    private int wrong;

    Check(String test) {
        this.test = test;
    }

    void due(String what, long got, long want) {
        asked++;
        if (got == want) return;
        wrong++;
        if (wrong <= 50) System.out.println(test + ": " + what + " answered " + got + ", due is " + want);
    }

    boolean isWrong() {
        return wrong > 0;
    }

    void close() {
        System.out.println(test + ": " + asked + " answers, " + wrong + " not as due");
        if (wrong > 0) System.exit(1);
    }

    /** Puts a text on the pad, eight characters at a time; returns the last answer. */
    static int putText(HallBuilds hall, String text) {
        int answer = 0;
        for (int from = 0; from < text.length(); from += 8) {
            answer = hall.put(packed(text.substring(from, Math.min(from + 8, text.length()))));
        }
        return answer;
    }

    static long packed(String characters) {
        long number = 0;
        for (char character : characters.toCharArray()) number = number << 8 | character;
        return number;
    }
}
