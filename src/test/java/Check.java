import java.util.function.Consumer;

/** Counts the answers that are not as due, prints them, and ends a test with exit code 1 if there was one. */
final class Check {
    private static final int MOST_TOLD = 50;
    private int wrong;

    /** Runs the test of one sentence of the document; where it fails, the sentence is told too. */
    void sentence(String words, Consumer<Check> test) {
        int before = wrong;
        test.accept(this);
        if (wrong != before) {
            System.out.println("which breaks: " + words);
        }
    }

    void due(String call, long got, long want) {
        due(call, Long.toString(got), Long.toString(want));
    }

    void due(String call, boolean got, boolean want) {
        due(call, Boolean.toString(got), Boolean.toString(want));
    }

    void due(String call, String got, String want) {
        if (!got.equals(want)) {
            wrong++;
            if (wrong <= MOST_TOLD) {
                // A text may hold any character, and what is told should stay readable.
                System.out.println((call + " answered " + got + ", due is " + want).replaceAll("[^ -~]", "?"));
            }
        }
    }

    void refused(String call, int got) {
        due(call, got, -1);
    }

    void taken(String call, int got) {
        due(call + " is taken", got >= 0, true);
    }

    void end() {
        if (wrong != 0) {
            System.out.println(wrong + " answers are not as due");
            System.exit(1);
        }
    }
}
