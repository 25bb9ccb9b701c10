import java.util.NoSuchElementException;

/** What the tests share: counting wrong answers, and putting texts on the tape. */
final class Check {
    static final int NONE = SwornDays.NONE;
    static final int HIDDEN = SwornDays.HIDDEN;
    private static int wrong = 0;
    private static int asked = 0;

    private Check() {
    }

    static void due(String call, long got, long want) {
        asked++;
        if (got != want) {
            wrong++;
            if (wrong <= 40) {
                System.out.println(call + " answered " + got + ", due is " + want);
            }
        }
    }

    static void due(String call, boolean got, boolean want) {
        due(call, got ? 1 : 0, want ? 1 : 0);
    }

    static void dueThrow(String call, SwornDays x, int person, int what) {
        int thrown = 0;
        try {
            x.person(person, what);
        } catch (NoSuchElementException e) {
            thrown = 1;
        }
        due(call + " throws", thrown, 1);
    }

    /** Empties the tape and feeds the text, with zero bytes strewn in where the last words are not full. */
    static void tape(SwornDays x, String text) {
        x.end(0);
        add(x, text);
    }

    static int add(SwornDays x, String text) {
        int answer = 0;
        for (int at = 0; at < text.length(); at += 20) {
            int[] words = new int[5];
            for (int i = 0; i < 20 && at + i < text.length(); i++) {
                words[i / 4] |= (text.charAt(at + i) & 255) << 24 - 8 * (i % 4);
            }
            answer = x.feed(words[0], words[1], words[2], words[3], words[4]);
        }
        return answer;
    }

    static int tell(SwornDays x, int sort, String text) {
        tape(x, text);
        return x.text(sort);
    }

    static SwornDays country(String text) {
        SwornDays x = new SwornDays();
        if (tell(x, 0, text) == NONE) {
            wrong++;
            System.out.println("no country: " + text);
        }
        return x;
    }

    static SwornDays country(String text, String... rows) {
        SwornDays x = country(text);
        for (String row : rows) {
            if (tell(x, 2, row) == NONE) {
                wrong++;
                System.out.println("no row: " + row);
            }
        }
        return x;
    }

    static void faultDue(int sort, String text, int want) {
        SwornDays x = new SwornDays();
        tape(x, text);
        due("fault(" + sort + ") of '" + text + "'", x.fault(sort), want);
        int bytes = x.count(5);
        int answer = x.text(sort);
        due("text(" + sort + ") of '" + text + "' is refused", answer == NONE, want != NONE);
        due("bytes behind text(" + sort + ") of '" + text + "'", x.count(5), want == NONE ? 0 : bytes);
    }

    /** Ends the test with exit code 1 if an answer was wrong. */
    static void end(String name) {
        System.out.println(name + ": " + (asked - wrong) + " of " + asked + " answers are as due");
        if (wrong != 0) {
            System.exit(1);
        }
    }
}
