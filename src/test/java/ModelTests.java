import java.nio.charset.StandardCharsets;
import java.util.ArrayList;
import java.util.Arrays;
import java.util.List;
import java.util.NoSuchElementException;
import java.util.Random;

/** Runs of calls from fixed seeds, against a second reader that is written as plainly as can be. */
public final class ModelTests {
    private static final int RUNS = 1500;
    private static final int CALLS = 512;
    private static final long THROWS = Long.MIN_VALUE;
    private static int wrong = 0;

    public static void main(String[] args) {
        long calls = 0;
        int[] kinds = new int[10];
        for (int seed = 1; seed <= RUNS && wrong < 20; seed++) {
            Run run = new Run(seed);
            run.go();
            calls += run.calls;
            for (int k = 0; k < kinds.length; k++) {
                kinds[k] += run.seen[k];
            }
        }
        System.out.println("ModelTests: " + calls + " calls, " + wrong + " wrong");
        // A generator that no longer comes to these would make the test empty.
        System.out.println("seen: faults 0 to 4 " + Arrays.toString(Arrays.copyOf(kinds, 5)) + ", readings 0, 1, more "
                + Arrays.toString(Arrays.copyOfRange(kinds, 5, 8)) + ", sure joins " + kinds[8] + ", pairs " + kinds[9]);
        for (int seen : kinds) {
            if (seen < 100) {
                wrong++;
                System.out.println("too few of one kind");
            }
        }
        System.exit(wrong == 0 ? 0 : 1);
    }

    /** One object beside its model. */
    private static final class Run {
        final int[] seen = new int[10];
        int calls = 0;
        private final int seed;
        private final Random random;
        private final ClayAccounts x = new ClayAccounts();
        private final Model model = new Model();
        private final StringBuilder log = new StringBuilder();
        private final Texts texts;
        private String heldBack = null;
        private int fittingEdge = 0;

        Run(int seed) {
            this.seed = seed;
            random = new Random(seed);
            texts = new Texts(random);
        }

        void go() {
            int before = wrong;
            systems(texts.systems());
            for (int n = 0; n < 13 && seed % 3 == 0; n++) {
                addFragment();
                match();
            }
            while (calls < CALLS && wrong == before) {
                step();
            }
        }

        private void check(String call, long got, long want) {
            calls++;
            log.append(call).append(" = ").append(want == THROWS ? "throws" : String.valueOf(want)).append('\n');
            if (got != want) {
                wrong++;
                String told = log.length() > 3000 ? ".. " + log.substring(log.length() - 3000) : log.toString();
                System.out.println("seed " + seed + ": " + call + " answered " + got + ", due is " + want + "\n" + told);
            }
        }

        private void feed(String text) {
            byte[] bytes = text.getBytes(StandardCharsets.ISO_8859_1);
            if (x.count(4) > 0 && random.nextInt(8) > 0) {
                check("end(0)", x.end(0) ? 1 : 0, model.end(0) ? 1 : 0);
            }
            for (int i = 0; i < bytes.length; i += 20) {
                int[] n = new int[5];
                for (int j = 0; j < 20; j++) {
                    n[j / 4] = n[j / 4] << 8 | (i + j < bytes.length ? bytes[i + j] & 255 : random.nextInt(256));
                }
                check("feed", x.feed(n[0], n[1], n[2], n[3], n[4]), model.feed(n));
            }
            int size = bytes.length;
            check("end(" + size + ")", x.end(size) ? 1 : 0, model.end(size) ? 1 : 0);
            log.append(text).append('\n');
        }

        private void systems(String text) {
            feed(text);
            check("systems()", x.systems(), model.systems());
            check("fault()", x.fault(), model.fault);
            seen[model.fault]++;
        }

        private void tablet(String text) {
            feed(text);
            check("tablet()", x.tablet(), model.tablet());
            check("fault()", x.fault(), model.fault);
            seen[model.fault]++;
        }

        private void fragment(String text, int left, int right) {
            feed(text);
            check("fragment(" + left + ", " + right + ")", x.fragment(left, right), model.fragment(left, right));
        }

        private int some(int most) {
            int r = random.nextInt(60);
            if (r == 0) {
                return Integer.MIN_VALUE;
            }
            if (r == 1) {
                return Integer.MAX_VALUE;
            }
            return random.nextInt(most + 3) - 1;
        }

        private void step() {
            int r = random.nextInt(100);
            if (r < 4) {
                systems(random.nextInt(3) == 0 ? texts.hurt(texts.systems()) : texts.systems());
            } else if (r < 30) {
                String text = texts.tablet(model.systems);
                tablet(random.nextInt(3) == 0 ? texts.hurt(text) : text);
                askTablet(model.tablets.size() - 1);
            } else if (r < 36) {
                askTablet(some(7));
            } else if (r < 50) {
                addFragment();
            } else if (r < 62) {
                join(some(model.fragments.size()), some(model.fragments.size()));
            } else if (r < 68) {
                match();
            } else {
                askLittle(r);
            }
        }

        private void match() {
            int pairs = model.match();
            check("match()", x.match(), pairs);
            check("count(3)", x.count(3), model.count(3));
            for (int f = 0; f < model.fragments.size(); f++) {
                check("matched(" + f + ")", x.matched(f), model.matched(f));
            }
            seen[9] += pairs;
        }

        private void join(int f, int g) {
            long join = model.join(f, g);
            check("join(" + f + ", " + g + ")", x.join(f, g), join);
            seen[8] += join == 2 ? 1 : 0;
        }

        private void addFragment() {
            int[] edges = {5, 99999994, 6, 99999993, 0, 99999999, random.nextInt(100000002) - 1};
            int left = edges[random.nextInt(edges.length)];
            int right = edges[random.nextInt(random.nextInt(2) == 0 ? 2 : edges.length)];
            if (heldBack != null && random.nextInt(4) > 0) {
                fragment(heldBack, random.nextInt(4) == 0 ? left : fittingEdge, right);
                heldBack = null;
                int last = model.fragments.size() - 1;
                join(last - 1, last);
                return;
            }
            String[] halves = texts.halves(texts.tablet(model.systems));
            heldBack = halves[1];
            fittingEdge = 99999999 - right;
            fragment(halves[0], left, right);
        }

        private void askTablet(int t) {
            check("lines(" + t + ")", x.lines(t), model.lines(t));
            long readings = model.readings(t);
            check("readings(" + t + ")", x.readings(t), readings);
            if (readings >= 0) {
                seen[readings < 2 ? 5 + (int) readings : 7]++;
            }
            check("wrong(" + t + ")", x.wrong(t), model.wrong(t));
            for (int n = 0; n < 4; n++) {
                int k = some(12);
                int what = some(4);
                boolean greatest = random.nextBoolean();
                check("line(" + t + ", " + k + ", " + what + ")", line(t, k, what), model.line(t, k, what));
                check("bound(" + t + ", " + k + ", " + greatest + ")", bound(t, k, greatest), model.bound(t, k, greatest));
                int q = some(4);
                check("digit(" + t + ", " + q + ")", digit(t, q), model.digit(t, q));
            }
        }

        private void askLittle(int r) {
            int a = some(6);
            int b = some(6);
            if (r < 76) {
                check("count(" + a + ")", x.count(a), model.count(a));
            } else if (r < 82) {
                check("system(" + a + ", " + b + ")", system(a, b), model.system(a, b));
            } else if (r < 88) {
                int v = random.nextInt(3) == 0 ? random.nextInt() : random.nextInt(1 << random.nextInt(31));
                check("write(" + a + ", " + v + ")", x.write(a, v), model.write(a, v));
            } else if (r < 94) {
                int k = some(60);
                check("octet(" + k + ")", octet(k), model.octet(k));
            } else if (r < 97) {
                int f = some(12);
                check("rows(" + f + ")", x.rows(f), model.rows(f));
                check("matched(" + f + ")", x.matched(f), model.matched(f));
            } else {
                check("feed", x.feed(a, b, a, b, a), model.feed(new int[] {a, b, a, b, a}));
                int n = some(440);
                check("end(" + n + ")", x.end(n) ? 1 : 0, model.end(n) ? 1 : 0);
            }
        }

        private long line(int t, int k, int what) {
            try {
                return x.line(t, k, what);
            } catch (NoSuchElementException e) {
                return THROWS;
            }
        }

        private long bound(int t, int k, boolean greatest) {
            try {
                return x.bound(t, k, greatest);
            } catch (NoSuchElementException e) {
                return THROWS;
            }
        }

        private long digit(int t, int q) {
            try {
                return x.digit(t, q);
            } catch (NoSuchElementException e) {
                return THROWS;
            }
        }

        private long system(int s, int what) {
            try {
                return x.system(s, what);
            } catch (NoSuchElementException e) {
                return THROWS;
            }
        }

        private long octet(int k) {
            try {
                return x.octet(k);
            } catch (NoSuchElementException e) {
                return THROWS;
            }
        }
    }

    /** Makes texts: most of them right, some nearly so. */
    private static final class Texts {
        private static final String[] WORDS = {"a", "b", "gur", "ban", "sila", "mina", "shekel", "abcdefgh", "zz",
            "bariga", "grain", "barley", "silver", "wool", "dates", "xyz", "qqqqqqq"};
        private static final String SIGNS = " \n:;.?0123456789abzgr/\u00ffA";
        private final Random random;

        Texts(Random random) {
            this.random = random;
        }

        private String blank() {
            return random.nextInt(4) == 0 ? "\n " : " ";
        }

        String systems() {
            List<String> words = new ArrayList<>(Arrays.asList(WORDS));
            java.util.Collections.shuffle(words, random);
            int next = 0;
            StringBuilder text = new StringBuilder();
            int many = 1 + random.nextInt(random.nextInt(12) == 0 ? 4 : 3);
            for (int s = 0; s < many; s++) {
                int units = 1 + random.nextInt(random.nextInt(10) == 0 ? 6 : 4);
                text.append("system ").append(words.get(next++ % words.size())).append(":");
                for (int u = 0; u < units; u++) {
                    int factor = random.nextInt(3) == 0 ? 2 + random.nextInt(59) : 2 + random.nextInt(10);
                    text.append(u == 0 ? "" : blank() + (random.nextInt(60) == 0 ? random.nextInt(100) : factor)).append(blank());
                    text.append(words.get((random.nextInt(80) == 0 ? 0 : next++) % words.size()));
                }
                text.append(";");
            }
            return lengthen(text.toString(), 400);
        }

        private String lengthen(String text, int limit) {
            if (random.nextInt(25) > 0 || text.length() > limit) {
                return text;
            }
            int place = random.nextInt(text.length() + 1);
            int more = Math.min(440, limit - 12 + random.nextInt(26)) - text.length();
            return text.substring(0, place) + " ".repeat(Math.max(0, more)) + text.substring(place);
        }

        String hurt(String text) {
            StringBuilder hurt = new StringBuilder(text);
            int times = 1 + random.nextInt(2);
            for (int n = 0; n < times; n++) {
                int place = random.nextInt(hurt.length() + 1);
                char sign = SIGNS.charAt(random.nextInt(SIGNS.length()));
                switch (random.nextInt(4)) {
                    case 0:
                        hurt.insert(place, sign);
                        break;
                    case 1:
                        hurt.insert(place, new String[] {" total ", " system ", " 0 ", ";;", " 1? ", "1 gur;", " ?? "}[random.nextInt(7)]);
                        break;
                    case 2:
                        if (place < hurt.length()) {
                            hurt.deleteCharAt(place);
                        }
                        break;
                    default:
                        if (place < hurt.length()) {
                            hurt.setCharAt(place, sign);
                        }
                }
            }
            return hurt.length() <= 440 ? hurt.toString() : hurt.substring(0, 440);
        }

        /** An account that comes out, then some of its digits broken off or made wrong. */
        String tablet(List<Sys> systems) {
            if (systems.isEmpty()) {
                return "1 gur;";
            }
            long[] open = new long[systems.size()];
            long[] totals = new long[systems.size()];
            StringBuilder text = new StringBuilder();
            int lines = 1 + random.nextInt(random.nextInt(12) == 0 ? 13 : 7);
            for (int k = 0; k < lines; k++) {
                int s = random.nextInt(random.nextInt(2) == 0 ? 1 : systems.size());
                Sys sys = systems.get(s);
                int r = random.nextInt(5);
                if (r == 0 && open[s] > 0 && sys.canWrite(open[s])) {
                    text.append("total ").append(sys.written(open[s])).append(";");
                    totals[s] += open[s];
                    open[s] = 0;
                } else if (r == 1 && totals[s] > 0 && sys.canWrite(totals[s])) {
                    text.append("grand").append(blank()).append(sys.written(totals[s])).append(";");
                } else {
                    long most = sys.worth(sys.names.size() - 1) * 9;
                    long value = 1 + (long) (random.nextDouble() * most);
                    open[s] += value;
                    text.append(sys.written(value)).append(random.nextInt(3) == 0 ? " wo" : "").append(";");
                }
                text.append(random.nextInt(4) == 0 ? blank() : "");
            }
            return lengthen(breakOff(text), 300);
        }

        private String breakOff(StringBuilder text) {
            int times = random.nextInt(random.nextInt(10) == 0 ? 6 : 5);
            for (int n = 0; n < times; n++) {
                List<Integer> places = new ArrayList<>();
                for (int i = 0; i < text.length(); i++) {
                    if (Character.isDigit(text.charAt(i))) {
                        places.add(i);
                    }
                }
                if (places.isEmpty()) {
                    break;
                }
                int place = places.get(random.nextInt(places.size()));
                int wrongDigit = random.nextInt(40) == 0 ? '0' : '1' + random.nextInt(4);
                text.setCharAt(place, random.nextInt(8) == 0 ? (char) wrongDigit : '?');
            }
            return text.toString();
        }

        /** Two texts of ROWS, which say this one together. */
        String[] halves(String text) {
            String[] pieces = text.replace("\n", " ").split("(?<=;)|(?<= )");
            StringBuilder left = new StringBuilder();
            StringBuilder right = new StringBuilder();
            int rows = random.nextInt(3);
            int row = 0;
            boolean toLeft = true;
            for (int i = 0; i < pieces.length; i++) {
                if (toLeft && random.nextInt(3) == 0) {
                    toLeft = false;
                }
                if (!toLeft && row < rows && random.nextInt(2) == 0) {
                    left.append('/');
                    right.append('/');
                    row++;
                    toLeft = true;
                }
                (toLeft ? left : right).append(pieces[i]);
            }
            return new String[] {left.toString(), right.toString()};
        }
    }

    /** A SYSTEM of the model. */
    private static final class Sys {
        final String name;
        final List<String> names = new ArrayList<>();
        final List<Integer> factors = new ArrayList<>();

        Sys(String name) {
            this.name = name;
        }

        long worth(int unit) {
            long worth = 1;
            for (int u = 1; u <= unit; u++) {
                worth *= factors.get(u);
            }
            return worth;
        }

        int most(int unit) {
            return unit == names.size() - 1 ? 99 : factors.get(unit + 1) - 1;
        }

        boolean canWrite(long value) {
            return value >= 1 && value / worth(names.size() - 1) <= 99;
        }

        String written(long value) {
            List<String> parts = new ArrayList<>();
            for (int u = names.size() - 1; u >= 0; u--) {
                long times = value / worth(u);
                value %= worth(u);
                if (times > 0) {
                    parts.add(times + " " + names.get(u));
                }
            }
            return String.join(" ", parts);
        }
    }

    private record Token(int place, String text) {
        boolean is(String other) {
            return text.equals(other);
        }

        boolean isName() {
            return text.matches("[a-z]{1,8}") && !text.matches("system|total|grand");
        }

        boolean isNumber() {
            return text.matches("[0-9]{1,2}");
        }

        boolean isCount() {
            return text.matches("[0-9?]{1,2}");
        }
    }

    private record Bad(int place, int kind) {
    }

    private record Amount(String count, int system, int unit) {
    }

    private record Row(int kind, List<Amount> amounts) {
        int system() {
            return amounts.get(0).system;
        }

        int holes() {
            int holes = 0;
            for (Amount a : amounts) {
                holes += a.count.length() - a.count.replace("?", "").length();
            }
            return holes;
        }
    }

    private record Piece(String text, int left, int right) {
        String[] parts() {
            return text.split("/", -1);
        }
    }

    /** What is found by trying everything. */
    private static final class Found {
        int readings = 0;
        int fewest = Integer.MAX_VALUE;
        long[] least;
        long[] greatest;
        int[] digits;
    }

    /** The document once more, with no thought of speed. */
    private static final class Model {
        List<Sys> systems = new ArrayList<>();
        final List<List<Row>> tablets = new ArrayList<>();
        final List<Found> found = new ArrayList<>();
        final List<Piece> fragments = new ArrayList<>();
        int[] partners = new int[0];
        int sure = 0;
        int fault = 0;
        private String tape = "";
        private String out = "";
        private List<Sys> readSystems;
        private List<Row> readRows;

        int feed(int[] n) {
            if (tape.length() + 20 > 440) {
                return -1;
            }
            StringBuilder more = new StringBuilder();
            for (int number : n) {
                for (int shift = 24; shift >= 0; shift -= 8) {
                    more.append((char) (number >> shift & 255));
                }
            }
            tape += more;
            return tape.length();
        }

        boolean end(int n) {
            if (n < 0 || n > tape.length()) {
                return false;
            }
            tape = tape.substring(0, n);
            return true;
        }

        private static boolean among(char c, String signs) {
            return signs.indexOf(c) >= 0;
        }

        /** TOKENS that begin ahead of the limit; last an empty one, the end. */
        private static List<Token> tokens(String text, int limit, String digits) {
            String letters = "abcdefghijklmnopqrstuvwxyz";
            List<Token> tokens = new ArrayList<>();
            int i = 0;
            while (i < text.length() && i < limit) {
                int from = i;
                char c = text.charAt(i);
                i++;
                if (among(c, " \n")) {
                    continue;
                }
                String more = among(c, letters) ? letters + "0123456789" : among(c, digits) ? letters + digits : "";
                while (i < text.length() && among(text.charAt(i), more)) {
                    i++;
                }
                tokens.add(new Token(from, text.substring(from, i)));
            }
            tokens.add(new Token(Math.min(limit, text.length()), ""));
            return tokens;
        }

        private Bad badSystems(String text) {
            List<Token> list = tokens(text, 400, "0123456789");
            List<String> taken = new ArrayList<>();
            readSystems = new ArrayList<>();
            int i = 0;
            while (i == 0 || !list.get(i).is("") || text.length() > 400) {
                if (!list.get(i).is("system")) {
                    return new Bad(list.get(i).place, 1);
                }
                if (readSystems.size() == 3) {
                    return new Bad(list.get(i).place, 4);
                }
                for (String wanted : new String[] {"name", ":", "name"}) {
                    i++;
                    Token t = list.get(i);
                    if (wanted.equals("name") ? !t.isName() : !t.is(wanted)) {
                        return new Bad(t.place, 1);
                    }
                    if (taken.contains(t.text)) {
                        return new Bad(t.place, 3);
                    }
                    if (t.isName()) {
                        taken.add(t.text);
                    }
                }
                Sys sys = new Sys(taken.get(taken.size() - 2));
                sys.names.add(taken.get(taken.size() - 1));
                sys.factors.add(0);
                readSystems.add(sys);
                i++;
                while (list.get(i).isNumber()) {
                    int factor = Integer.parseInt(list.get(i).text);
                    if (factor < 2 || factor > 60) {
                        return new Bad(list.get(i).place, 2);
                    }
                    if (sys.names.size() == 5) {
                        return new Bad(list.get(i).place, 4);
                    }
                    i++;
                    if (!list.get(i).isName()) {
                        return new Bad(list.get(i).place, 1);
                    }
                    if (taken.contains(list.get(i).text)) {
                        return new Bad(list.get(i).place, 3);
                    }
                    taken.add(list.get(i).text);
                    sys.names.add(list.get(i).text);
                    sys.factors.add(factor);
                    i++;
                }
                if (!list.get(i).is(";")) {
                    return new Bad(list.get(i).place, 1);
                }
                i++;
            }
            return null;
        }

        private int[] unit(Token t) {
            for (int s = 0; s < systems.size(); s++) {
                int u = systems.get(s).names.indexOf(t.text);
                if (t.isName() && u >= 0) {
                    return new int[] {s, u};
                }
            }
            return null;
        }

        /** Whether the text is a COUNT from 1 to most, with some digits for its ?. */
        private static boolean canBe(String count, int most) {
            for (int v = 1; v <= most; v++) {
                if (String.valueOf(v).matches(count.replace("?", "[0-9]"))) {
                    return true;
                }
            }
            return false;
        }

        private Bad badTablet(String text) {
            List<Token> list = tokens(text, 300, "0123456789?");
            readRows = new ArrayList<>();
            int holes = 0;
            int i = 0;
            while (i == 0 || !list.get(i).is("") || text.length() > 300) {
                boolean tooMany = readRows.size() == 12;
                int kind = list.get(i).is("total") ? 1 : list.get(i).is("grand") ? 2 : 0;
                if (kind > 0 && tooMany) {
                    return new Bad(list.get(i).place, 4);
                }
                i += kind > 0 ? 1 : 0;
                List<Amount> amounts = new ArrayList<>();
                while (amounts.isEmpty() || list.get(i).isCount()) {
                    Token count = list.get(i);
                    if (!count.isCount()) {
                        return new Bad(count.place, 1);
                    }
                    Token behind = list.get(i + 1);
                    int[] unit = unit(behind);
                    if (!canBe(count.text, unit == null ? 99 : systems.get(unit[0]).most(unit[1]))) {
                        return new Bad(count.place, 2);
                    }
                    holes += count.text.length() - count.text.replace("?", "").length();
                    if (tooMany || holes > 4) {
                        return new Bad(count.place, 4);
                    }
                    if (!behind.isName()) {
                        return new Bad(behind.place, 1);
                    }
                    Amount ahead = amounts.isEmpty() ? null : amounts.get(amounts.size() - 1);
                    if (unit == null || ahead != null && (ahead.system != unit[0] || ahead.unit <= unit[1])) {
                        return new Bad(behind.place, 3);
                    }
                    amounts.add(new Amount(count.text, unit[0], unit[1]));
                    i += 2;
                }
                if (kind == 0 && list.get(i).isName() && unit(list.get(i)) == null) {
                    i++;
                }
                if (!list.get(i).is(";")) {
                    return new Bad(list.get(i).place, 1);
                }
                readRows.add(new Row(kind, amounts));
                i++;
            }
            return null;
        }

        int systems() {
            Bad bad = badSystems(tape);
            tape = "";
            fault = bad == null ? 0 : bad.kind;
            if (bad != null) {
                return -1 - bad.place;
            }
            systems = readSystems;
            tablets.clear();
            found.clear();
            partners = new int[0];
            sure = 0;
            return systems.size();
        }

        int tablet() {
            String text = tape;
            tape = "";
            if (tablets.size() == 8 || systems.isEmpty()) {
                return -400;
            }
            Bad bad = badTablet(text);
            fault = bad == null ? 0 : bad.kind;
            if (bad != null) {
                return -1 - bad.place;
            }
            tablets.add(readRows);
            found.add(tryAll(readRows));
            return tablets.size() - 1;
        }

        private Found tryAll(List<Row> rows) {
            int holes = 0;
            for (Row row : rows) {
                holes += row.holes();
            }
            int fillings = (int) Math.round(Math.pow(10, holes));
            Found all = new Found();
            for (int filling = 0; filling < fillings; filling++) {
                int[] digits = new int[holes];
                int rest = filling;
                for (int q = holes - 1; q >= 0; q--) {
                    digits[q] = rest % 10;
                    rest /= 10;
                }
                long[] values = values(rows, digits);
                if (values != null) {
                    note(all, rows, digits, values);
                }
            }
            return all;
        }

        private void note(Found all, List<Row> rows, int[] digits, long[] values) {
            int missed = missed(rows, values);
            all.fewest = Math.min(all.fewest, missed);
            if (missed > 0) {
                return;
            }
            all.readings++;
            if (all.readings == 1) {
                all.least = values.clone();
                all.greatest = values.clone();
                all.digits = digits.clone();
                return;
            }
            for (int k = 0; k < values.length; k++) {
                all.least[k] = Math.min(all.least[k], values[k]);
                all.greatest[k] = Math.max(all.greatest[k], values[k]);
            }
            for (int q = 0; q < digits.length; q++) {
                all.digits[q] = all.digits[q] == digits[q] ? digits[q] : -1;
            }
        }

        /** The VALUES with these digits, or null if a COUNT is not as told. */
        private long[] values(List<Row> rows, int[] digits) {
            long[] values = new long[rows.size()];
            int q = 0;
            for (int k = 0; k < values.length; k++) {
                for (Amount a : rows.get(k).amounts) {
                    int count = 0;
                    for (int i = 0; i < a.count.length(); i++) {
                        int digit = a.count.charAt(i) == '?' ? digits[q++] : a.count.charAt(i) - '0';
                        if (i == 0 && digit == 0) {
                            return null;
                        }
                        count = 10 * count + digit;
                    }
                    Sys sys = systems.get(a.system);
                    if (count > sys.most(a.unit)) {
                        return null;
                    }
                    values[k] += count * sys.worth(a.unit);
                }
            }
            return values;
        }

        private int missed(List<Row> rows, long[] values) {
            long[] entries = new long[3];
            long[] totals = new long[3];
            int missed = 0;
            for (int k = 0; k < values.length; k++) {
                int s = rows.get(k).system();
                switch (rows.get(k).kind) {
                    case 0:
                        entries[s] += values[k];
                        break;
                    case 1:
                        missed += entries[s] == values[k] ? 0 : 1;
                        entries[s] = 0;
                        totals[s] += values[k];
                        break;
                    default:
                        missed += totals[s] == values[k] ? 0 : 1;
                }
            }
            return missed;
        }

        private boolean isTablet(int t) {
            return t >= 0 && t < tablets.size();
        }

        private boolean isLine(int t, int k) {
            return isTablet(t) && k >= 0 && k < tablets.get(t).size();
        }

        long lines(int t) {
            return isTablet(t) ? tablets.get(t).size() : -1;
        }

        long readings(int t) {
            return isTablet(t) ? found.get(t).readings : -1;
        }

        long wrong(int t) {
            return isTablet(t) ? found.get(t).fewest : -1;
        }

        long line(int t, int k, int what) {
            if (!isLine(t, k) || what < 0 || what > 3) {
                return THROWS;
            }
            Row row = tablets.get(t).get(k);
            if (what == 3) {
                return row.holes() > 0 ? -1 : values(List.of(row), new int[0])[0];
            }
            return what == 0 ? row.kind : what == 1 ? row.system() : row.holes();
        }

        long bound(int t, int k, boolean greatest) {
            if (!isLine(t, k)) {
                return THROWS;
            }
            Found all = found.get(t);
            return all.readings == 0 ? -1 : greatest ? all.greatest[k] : all.least[k];
        }

        long digit(int t, int q) {
            int holes = 0;
            for (int k = 0; k < lines(t); k++) {
                holes += tablets.get(t).get(k).holes();
            }
            if (q < 0 || q >= holes) {
                return THROWS;
            }
            return found.get(t).readings == 0 ? -1 : found.get(t).digits[q];
        }

        long system(int s, int what) {
            if (s < 0 || s >= systems.size() || what < 0 || what > 4) {
                return THROWS;
            }
            Sys sys = systems.get(s);
            return what == 0 ? sys.names.size() : what < sys.names.size() ? sys.factors.get(what) : -1;
        }

        long write(int s, int v) {
            if (s < 0 || s >= systems.size() || !systems.get(s).canWrite(v)) {
                return -1;
            }
            out = systems.get(s).written(v);
            return out.length();
        }

        long octet(int k) {
            return k >= 0 && k < out.length() ? out.charAt(k) : THROWS;
        }

        int fragment(int left, int right) {
            String text = tape;
            tape = "";
            boolean good = left >= 0 && left <= 99999999 && right >= 0 && right <= 99999999 && text.length() <= 200;
            if (!good || fragments.size() == 12) {
                return -1;
            }
            fragments.add(new Piece(text, left, right));
            return fragments.size() - 1;
        }

        long rows(int f) {
            return f >= 0 && f < fragments.size() ? fragments.get(f).parts().length : -1;
        }

        long join(int f, int g) {
            if (rows(f) < 0 || rows(g) < 0 || f == g) {
                return -1;
            }
            Piece left = fragments.get(f);
            Piece right = fragments.get(g);
            if (left.right == 0 || right.left == 0 || left.right + right.left != 99999999 || rows(f) != rows(g)) {
                return 0;
            }
            StringBuilder said = new StringBuilder();
            for (int r = 0; r < rows(f); r++) {
                said.append(left.parts()[r]).append(' ').append(right.parts()[r]).append(' ');
            }
            return badTablet(said.toString()) == null && tryAll(readRows).readings > 0 ? 2 : 1;
        }

        /** All MATCHES are compared: the most SURE pairs, the most pairs, the least partners; alone is greatest. */
        int match() {
            int n = fragments.size();
            long[][] joins = new long[n][n];
            for (int f = 0; f < n; f++) {
                for (int g = 0; g < n; g++) {
                    joins[f][g] = f == g ? 0 : Math.max(join(f, g), join(g, f));
                }
            }
            int[] alone = new int[n];
            Arrays.fill(alone, 99);
            int[] best = new int[n + 2];
            best[0] = 1;
            tryMatches(joins, alone, 0, best);
            partners = new int[n];
            for (int f = 0; f < n; f++) {
                partners[f] = best[f + 2] == 99 ? -1 : best[f + 2];
            }
            sure = -best[0];
            return -best[1];
        }

        private void tryMatches(long[][] joins, int[] with, int f, int[] best) {
            if (f == with.length) {
                int[] made = new int[with.length + 2];
                for (int g = 0; g < with.length; g++) {
                    boolean paired = with[g] < 99 && g < with[g];
                    made[0] -= paired && joins[g][with[g]] == 2 ? 1 : 0;
                    made[1] -= paired ? 1 : 0;
                    made[g + 2] = with[g];
                }
                if (Arrays.compare(made, best) < 0) {
                    System.arraycopy(made, 0, best, 0, made.length);
                }
                return;
            }
            tryMatches(joins, with, f + 1, best);
            for (int g = f + 1; g < with.length && with[f] == 99; g++) {
                if (with[g] == 99 && joins[f][g] > 0) {
                    with[f] = g;
                    with[g] = f;
                    tryMatches(joins, with, f + 1, best);
                    with[f] = 99;
                    with[g] = 99;
                }
            }
        }

        long matched(int f) {
            return f >= 0 && f < partners.length ? partners[f] : -1;
        }

        long count(int what) {
            int[] counts = {systems.size(), tablets.size(), fragments.size(), sure, tape.length(), out.length()};
            return what >= 0 && what < 6 ? counts[what] : -1;
        }
    }
}
