/** What tests of one finder need: answers held against those due, and texts fed as bytes. */
final class Checks {
    private int wrong = 0;

    void due(String call, long got, long want) {
        if (got != want) {
            wrong++;
            System.out.println(call + " answered " + got + ", due is " + want);
        }
    }

    void isTrue(String what, boolean holds) {
        due(what, holds ? 1 : 0, 1);
    }

    /** Ends the program: with exit code 1 if an answer was not the one due. */
    void end() {
        System.out.println(wrong == 0 ? "all answers are as due" : wrong + " answers are not as due");
        System.exit(wrong == 0 ? 0 : 1);
    }

    /** Feeds a text, filled up with blanks to whole feeds; its bytes are the first of the tape. */
    static void feed(KnockFinder x, String text) {
        for (int from = 0; from < text.length(); from += 20) {
            x.feed(four(text, from), four(text, from + 4), four(text, from + 8), four(text, from + 12),
                four(text, from + 16));
        }
    }

    private static int four(String text, int from) {
        int value = 0;
        for (int i = from; i < from + 4; i++) {
            value = value << 8 | (i < text.length() ? text.charAt(i) & 255 : ' ');
        }
        return value;
    }

    static int trace(KnockFinder x, String text) {
        feed(x, text);
        return x.trace(text.length());
    }

    static int filters(KnockFinder x, String text) {
        feed(x, text);
        return x.filters(text.length());
    }

    static int speeds(KnockFinder x, String text) {
        feed(x, text);
        return x.speeds(text.length());
    }

    /** A fault's answer by its number and place. */
    static int fault(int number, int place) {
        return -1000 * number - place;
    }

    static String report(KnockFinder x, int i) {
        StringBuilder told = new StringBuilder();
        for (int k = 0; k < x.report(i, -1); k++) {
            told.append((char) x.report(i, k));
        }
        return told.toString();
    }
}
