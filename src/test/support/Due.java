/** Counts the answers that are not as they are due, and prints them. */
final class Due {
    private static final int MOST_PRINTED = 50;
    private static String topic = "";
    private static long askedBefore = 0;
    private static long asked = 0;
    private static long wrong = 0;

    private Due() {
    }

    /** Names what the following answers are about. */
    static void begin(String name) {
        checkThatTheTopicWasAsked();
        topic = name + ": ";
        askedBefore = asked;
    }

    static void due(String call, long got, long want) {
        asked++;
        if (got != want) {
            wrong++;
            if (wrong <= MOST_PRINTED) {
                System.out.println(topic + call + " answered " + got + ", due is " + want);
            }
        }
    }

    static void due(String what, boolean got, boolean want) {
        due(what, got ? 1 : 0, want ? 1 : 0);
    }

    static void dueText(String what, String got, String want) {
        asked++;
        if (!got.equals(want)) {
            wrong++;
            System.out.println(topic + what + " is\n" + got + "\ndue is\n" + want);
        }
    }

    static void end() {
        checkThatTheTopicWasAsked();
        System.out.println(asked + " answers, " + wrong + " not as due");
        if (wrong != 0 || asked == 0) {
            System.exit(1);
        }
    }

    private static void checkThatTheTopicWasAsked() {
        if (!topic.isEmpty() && asked == askedBefore) {
            wrong++;
            System.out.println(topic + "nothing was asked");
        }
    }
}
