/** Compares answers with those that are due, and ends a test with exit code 1 if one was not. */
final class Check {
    private static int compared = 0;
    private static int wrong = 0;
    private static String sentence = "";

    private Check() {
    }

    /** The document's sentence that is looked at from here on: it is printed with what is not as due. */
    static void of(String words) {
        sentence = "\"" + words + "\": ";
    }

    static void due(String call, long want, long got) {
        compared++;
        if (got != want) {
            wrong++;
            System.out.println(sentence + call + " answered " + got + ", due is " + want);
        }
    }

    static void holds(String what, boolean so) {
        due(what, 1, so ? 1 : 0);
    }

    static boolean anyWrong() {
        return wrong > 0;
    }

    /** A text told letter by letter. */
    static void tell(RingSteer steer, String text) {
        for (int i = 0; i < text.length(); i++) {
            steer.type(text.charAt(i));
        }
    }

    /** A new object that has read a text, which must be right. */
    static RingSteer told(String text) {
        RingSteer steer = new RingSteer();
        tell(steer, text);
        holds("'" + text + "' can be read", steer.tunnel() >= 0);
        return steer;
    }

    static void build(RingSteer steer, int... keys) {
        for (int key : keys) {
            holds("builds(" + key + ") is not refused", steer.builds(key) >= 0);
        }
    }

    static void dueCounts(RingSteer steer, String where, int... want) {
        for (int what = 0; what < want.length; what++) {
            due(where + ": count(" + what + ")", want[what], steer.count(what));
        }
    }

    static void end(String name) {
        System.out.println(name + ": " + compared + " compared, " + wrong + " not as due");
        if (wrong > 0 || compared == 0) {
            System.exit(1);
        }
    }
}
