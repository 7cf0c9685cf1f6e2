/** Compares answers with what is due, and ends a test's program. */
final class Check {
    private static int asked = 0;
    private static int wrong = 0;

    private Check() {
    }

    static void due(String call, long got, long want) {
        asked++;
        if (got != want) {
            wrong++;
            System.out.println(call + " answered " + got + ", due is " + want);
        }
    }

    /** Empties the text and types another one, which is at most 60 characters long. */
    static void text(TramWires x, String text) {
        x.clearText();
        for (int i = 0; i < text.length(); i++) {
            due("type at " + i + " of " + text, x.type(text.charAt(i)), i + 1);
        }
    }

    /** The text has a fault at this position for this reason. */
    static void faulty(TramWires x, String text, int position, int reason) {
        text(x, text);
        due("position in " + text, x.fault(0), position);
        due("reason in " + text, x.fault(1), reason);
        int states = x.count(14);
        due("play of " + text, x.play(), TramWires.NOT_POSSIBLE);
        due("history after " + text, x.count(14), states);
    }

    static void faultless(TramWires x, String text) {
        text(x, text);
        due("position in " + text, x.fault(0), TramWires.NOT_FOUND);
        due("reason in " + text, x.fault(1), TramWires.NOT_FOUND);
    }

    static void end(String test) {
        System.out.println(test + ": " + asked + " answers, " + wrong + " not as due");
        System.exit(wrong == 0 && asked > 0 ? 0 : 1);
    }
}
