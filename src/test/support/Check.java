import java.nio.charset.StandardCharsets;
import java.util.NoSuchElementException;

/** What the tests have in common: texts put onto the tape, answers held against those that are due. */
abstract class Check {
    static final String UNITS = "system barley: sila 10 ban 6 bariga 5 gur;system silver: grain 60 shekel 60 mina;";
    static final int LEAST = Integer.MIN_VALUE;
    static final int GREATEST = Integer.MAX_VALUE;
    // No call answers this.
    static final int THROWS = Integer.MIN_VALUE;

    private static int answers = 0;
    private static int wrong = 0;
    private static int sentences = 0;
    private static String sentence = "";

    interface Call {
        int answer();
    }

    /** The tests that follow are of these words of the document. */
    static void sentence(String words) {
        sentences++;
        sentence = words;
    }

    static void finish(String test) {
        System.out.println(test + ": " + (sentences > 0 ? sentences + " sentences, " : "") + answers + " answers, " + wrong + " wrong");
        System.exit(wrong == 0 ? 0 : 1);
    }

    static void due(String what, int got, int want) {
        answers++;
        if (got != want) {
            wrong++;
            System.out.println((sentence.isEmpty() ? "" : "'" + sentence + "': ") + what + " answered " + told(got) + ", due is " + told(want));
        }
    }

    static void due(String what, boolean got, boolean want) {
        due(what, got ? 1 : 0, want ? 1 : 0);
    }

    static void due(String what, String got, String want) {
        if (!got.equals(want)) {
            System.out.println(got + "\nand not\n" + want);
        }
        due(what, got.equals(want), true);
    }

    private static String told(int answer) {
        return answer == THROWS ? "a NoSuchElementException" : String.valueOf(answer);
    }

    static int orThrows(Call call) {
        try {
            return call.answer();
        } catch (NoSuchElementException e) {
            return THROWS;
        }
    }

    static void put(ClayAccounts x, byte[] text) {
        int before = x.count(4);
        for (int i = 0; i < text.length; i += 20) {
            int[] n = new int[5];
            for (int j = 0; j < 20; j++) {
                int octet = i + j < text.length ? text[i + j] & 255 : 0;
                n[j / 4] = n[j / 4] << 8 | octet;
            }
            x.feed(n[0], n[1], n[2], n[3], n[4]);
        }
        x.end(before + text.length);
    }

    static void put(ClayAccounts x, String text) {
        put(x, text.getBytes(StandardCharsets.ISO_8859_1));
    }

    static int systems(ClayAccounts x, String text) {
        put(x, text);
        return x.systems();
    }

    static int tablet(ClayAccounts x, String text) {
        put(x, text);
        return x.tablet();
    }

    static int fragment(ClayAccounts x, String text, int left, int right) {
        put(x, text);
        return x.fragment(left, right);
    }

    static ClayAccounts withUnits(String text) {
        ClayAccounts x = new ClayAccounts();
        systems(x, text);
        return x;
    }

    static void dueSystems(String text, int want, int fault) {
        ClayAccounts x = new ClayAccounts();
        due("systems of \"" + text + "\"", systems(x, text), want);
        due("fault of \"" + text + "\"", x.fault(), fault);
        due("count of SYSTEMS behind \"" + text + "\"", x.count(0), Math.max(0, want));
    }

    static void dueTablet(String text, int want, int fault) {
        dueTablet(UNITS, text, want, fault);
    }

    static void dueTablet(String units, String text, int want, int fault) {
        ClayAccounts x = withUnits(units);
        due("tablet of \"" + text + "\"", tablet(x, text), want);
        due("fault of \"" + text + "\"", x.fault(), fault);
        due("count of TABLETS behind \"" + text + "\"", x.count(1), want >= 0 ? 1 : 0);
    }

    static void dueOut(ClayAccounts x, String text) {
        due("bytes of OUT for " + text, x.count(5), text.length());
        for (int k = 0; k < text.length(); k++) {
            int place = k;
            due("octet " + k + " of " + text, orThrows(() -> x.octet(place)), text.charAt(k));
        }
        due("octet behind " + text, orThrows(() -> x.octet(text.length())), THROWS);
    }

    static String blanks(int n) {
        return " ".repeat(n);
    }

    /** The text with blanks behind it, as long as this. */
    static String upTo(int size, String text) {
        return text + blanks(size - text.length());
    }

    /** All that can be asked without a change, but for the tape and the FAULT. */
    static String state(ClayAccounts x) {
        StringBuilder all = new StringBuilder();
        for (int what : new int[] {0, 1, 2, 3, 5}) {
            all.append("count(").append(what).append(") ").append(x.count(what)).append('\n');
        }
        for (int k = 0; k < x.count(5); k++) {
            all.append((char) x.octet(k));
        }
        for (int s = 0; s < x.count(0); s++) {
            for (int what = 0; what <= 4; what++) {
                all.append("\nsystem ").append(x.system(s, what));
            }
        }
        for (int t = 0; t < x.count(1); t++) {
            tellTablet(x, t, all);
        }
        for (int f = 0; f < x.count(2); f++) {
            all.append("\nrows ").append(x.rows(f)).append(" matched ").append(x.matched(f)).append(" join");
            for (int g = 0; g < x.count(2); g++) {
                all.append(' ').append(x.join(f, g));
            }
        }
        return all.toString();
    }

    private static void tellTablet(ClayAccounts x, int t, StringBuilder all) {
        all.append("\nreadings ").append(x.readings(t)).append(" wrong ").append(x.wrong(t));
        int holes = 0;
        for (int k = 0; k < x.lines(t); k++) {
            all.append("\nline");
            for (int what = 0; what <= 3; what++) {
                all.append(' ').append(x.line(t, k, what));
            }
            all.append(" bound ").append(x.bound(t, k, false)).append(' ').append(x.bound(t, k, true));
            holes += x.line(t, k, 2);
        }
        for (int q = 0; q < holes; q++) {
            all.append(" digit ").append(x.digit(t, q));
        }
    }
}
