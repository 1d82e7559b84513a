/** Counts what the checks of one test program found, and ends it with the exit code that is due. */
final class Check {
    private static final int MOST_LINES = 40;

    private static String place = "";
    private static int checks = 0;
    private static int wrong = 0;
    private static boolean isInSentence = false;
    private static int checksBeforeSentence = 0;

    private Check() {
    }

    /** Names what the checks from here on are about. */
    static void about(String what) {
        endSentence();
        place = what;
    }

    /** The checks from here on are about these words of the document, which must stand in that section. */
    static void sentence(String section, String words) {
        about(section + ", \"" + words + "\"");
        holds("these words stand in the document", Document.section(section).contains(words));
        isInSentence = true;
        checksBeforeSentence = checks;
    }

    private static void endSentence() {
        if (isInSentence && checks == checksBeforeSentence) {
            fail("nothing was checked");
        }
        isInSentence = false;
    }

    static void due(String call, long got, long want) {
        checks++;
        if (got != want) {
            fail(call + " answered " + got + ", due is " + want);
        }
    }

    static void same(String what, String got, String want) {
        checks++;
        if (!got.equals(want)) {
            fail(what + " is\n  " + got + ", due is\n  " + want);
        }
    }

    static void holds(String what, boolean so) {
        checks++;
        if (!so) {
            fail(what);
        }
    }

    static boolean isWrong() {
        return wrong > 0;
    }

    private static void fail(String line) {
        wrong++;
        if (wrong <= MOST_LINES) {
            System.out.println(place + ": " + line);
        }
    }

    static void end() {
        endSentence();
        System.out.println(wrong == 0 ? checks + " checks are as due" : wrong + " of " + checks + " checks are not as due");
        System.exit(wrong == 0 && checks > 0 ? 0 : 1);
    }
}
