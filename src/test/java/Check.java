/** Counts and prints the answers that are not as due. */
final class Check {
    private int wrong = 0;
    private int asked = 0;
    private String sentence = "";

    /** Names the sentence of the document by which the answers from now on are due. */
    void says(String quoted) {
        sentence = "\"" + quoted + "\": ";
    }

    void due(String what, long got, long want) {
        asked++;
        if (got != want) {
            wrong++;
            if (wrong <= 50) {
                System.out.println(sentence + what + " answered " + got + ", due is " + want);
            }
        }
    }

    void isTrue(String what, boolean holds) {
        due(what, holds ? 1 : 0, 1);
    }

    /** A refusal: STATE, and the reason behind it. */
    void refused(String what, ClockPlanner x, long got, int reason) {
        due(what, got, ClockPlanner.STATE);
        due(what + ", its reason", x.reason(), reason);
    }

    /** A path of which a part is refused, and the reason behind it. */
    void refusedPart(String text, ClockPlanner x, int part, int reason) {
        due("lay of " + text, lay(x, text), -200 - part);
        due("lay of " + text + ", its reason", x.reason(), reason);
    }

    boolean allRight() {
        return wrong == 0;
    }

    /** Ends the program with exit code 1 if an answer was wrong. */
    void end() {
        System.out.println(asked + " answers, " + wrong + " not as due");
        if (wrong != 0) {
            System.exit(1);
        }
    }

    /** Feeds a text by at most five bytes a call; answers what the last feed did. */
    static int feed(ClockPlanner x, String text) {
        int answer = 0;
        for (int from = 0; from < text.length(); from += 5) {
            int n = Math.min(5, text.length() - from);
            int[] bytes = new int[5];
            for (int i = 0; i < n; i++) {
                bytes[i] = text.charAt(from + i);
            }
            answer = x.feed(n, bytes[0], bytes[1], bytes[2], bytes[3], bytes[4]);
        }
        return answer;
    }

    static int lay(ClockPlanner x, String text) {
        feed(x, text);
        return x.lay();
    }
}
