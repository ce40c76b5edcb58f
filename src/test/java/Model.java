import java.util.ArrayList;
import java.util.HashSet;
import java.util.List;
import java.util.Set;

/**
 * The document once more, as naively as can be: nothing is kept that can be worked out again, charts are texts
 * such as "KPPK", money is the sum of all payments. An answer is a text: a number, or an exception's name.
 */
final class Model {
    static final String INDEX = "IndexOutOfBoundsException";
    static final String ARGUMENT = "IllegalArgumentException";
    static final String STATE = "IllegalStateException";

    private static final class Pattern {
        int owner;
        int price;
        int width;
        boolean barred;
        final List<int[]> lines = new ArrayList<>();
        final Set<Integer> buyers = new HashSet<>();
    }

    private final List<Pattern> patterns = new ArrayList<>();
    private final List<Integer> published = new ArrayList<>();
    private final List<int[]> payments = new ArrayList<>();
    private final List<int[]> lots = new ArrayList<>();
    private final List<int[]> projects = new ArrayList<>();

    int patternCount() {
        return patterns.size();
    }

    int lotCount() {
        return lots.size();
    }

    int projectCount() {
        return projects.size();
    }

    private static boolean in(int value, int least, int most) {
        return least <= value && value <= most;
    }

    private static boolean numbers(int number, List<?> list) {
        return in(number, 0, list.size() - 1);
    }

    private static boolean isPerson(int person) {
        return in(person, 0, 4);
    }

    private List<String> chart(int number) {
        List<String> chart = new ArrayList<>();
        Pattern pattern = patterns.get(number);
        int width = pattern.width;
        for (int[] line : pattern.lines) {
            String turn = "K".repeat(line[0]) + "P".repeat(line[1]);
            for (int time = 0; time < line[3]; time++) {
                chart.add(turn.repeat(40).substring(0, width));
                width += line[2];
                width = width < 1 ? 1 : width > 40 ? 40 : width;
            }
        }
        return chart;
    }

    private static int yarn(String row, int gauge) {
        int sum = 0;
        for (char stitch : row.toCharArray()) {
            sum += gauge * (stitch == 'K' ? 2 : 3);
        }
        return sum;
    }

    private int originalOf(int number) {
        if (published.contains(number)) {
            for (int earlier : published) {
                if (chart(earlier).equals(chart(number))) {
                    return earlier;
                }
            }
        }
        return -1;
    }

    private int moneyOf(int person) {
        int sum = 0;
        for (int[] payment : payments) {
            sum += (payment[1] == person ? payment[2] : 0) - (payment[0] == person ? payment[2] : 0);
        }
        return sum;
    }

    String begin(int owner, int width, int price) {
        if (!isPerson(owner)) return INDEX;
        if (!in(width, 1, 20) || !in(price, 0, 1000)) return ARGUMENT;
        if (patterns.size() == 16) return STATE;
        Pattern pattern = new Pattern();
        pattern.owner = owner;
        pattern.width = width;
        pattern.price = price;
        patterns.add(pattern);
        return "" + (patterns.size() - 1);
    }

    String line(int pattern, int knits, int purls, int shaping, int times) {
        if (!numbers(pattern, patterns)) return INDEX;
        if (!in(knits, 0, 9) || !in(purls, 0, 9) || !in(shaping, -3, 3) || !in(times, 1, 20)) return ARGUMENT;
        if (knits + purls == 0) return ARGUMENT;
        List<int[]> lines = patterns.get(pattern).lines;
        if (published.contains(pattern) || lines.size() == 6 || chart(pattern).size() + times > 40) return STATE;
        lines.add(new int[] {knits, purls, shaping, times});
        return "" + chart(pattern).size();
    }

    String anew(int pattern, int gauge) {
        if (!numbers(pattern, patterns)) return INDEX;
        if (!in(gauge, 5, 20)) return ARGUMENT;
        Pattern old = patterns.get(pattern);
        Pattern made = new Pattern();
        made.owner = old.owner;
        made.price = old.price;
        made.width = Math.min(20, Math.max(1, old.width * gauge / 10));
        int sum = 0;
        for (int[] line : old.lines) {
            int times = Math.max(1, line[3] * gauge / 10);
            made.lines.add(new int[] {line[0], line[1], line[2], times});
            sum += times;
        }
        if (old.lines.isEmpty() || sum > 40 || patterns.size() == 16) return STATE;
        patterns.add(made);
        return "" + (patterns.size() - 1);
    }

    String publish(int pattern) {
        if (!numbers(pattern, patterns)) return INDEX;
        if (published.contains(pattern) || patterns.get(pattern).lines.isEmpty()) return STATE;
        published.add(pattern);
        return "" + originalOf(pattern);
    }

    String original(int pattern) {
        return numbers(pattern, patterns) ? "" + originalOf(pattern) : INDEX;
    }

    String rows(int pattern) {
        return numbers(pattern, patterns) ? "" + chart(pattern).size() : INDEX;
    }

    String stitch(int pattern, int row, int place) {
        if (!numbers(pattern, patterns) || !numbers(row, chart(pattern)) || place < 0) return INDEX;
        String stitches = chart(pattern).get(row);
        return place >= stitches.length() ? "0" : stitches.charAt(place) == 'K' ? "1" : "2";
    }

    String need(int pattern, int gauge) {
        if (!numbers(pattern, patterns)) return INDEX;
        if (!in(gauge, 5, 20)) return ARGUMENT;
        return "" + yarn(String.join("", chart(pattern)), gauge);
    }

    String buy(int pattern, int person) {
        if (!numbers(pattern, patterns) || !isPerson(person)) return INDEX;
        Pattern sold = patterns.get(pattern);
        if (!published.contains(pattern) || sold.barred || sold.owner == person) return STATE;
        if (!sold.buyers.add(person)) return STATE;
        payments.add(new int[] {person, sold.owner, sold.price});
        return "" + moneyOf(sold.owner);
    }

    String rule(int pattern) {
        if (!numbers(pattern, patterns)) return INDEX;
        Pattern copy = patterns.get(pattern);
        if (originalOf(pattern) < 0 || copy.barred) return STATE;
        int owner = patterns.get(originalOf(pattern)).owner;
        if (owner == copy.owner) return STATE;
        copy.barred = true;
        payments.add(new int[] {copy.owner, owner, copy.price * copy.buyers.size()});
        return "" + copy.price * copy.buyers.size();
    }

    String money(int person) {
        return isPerson(person) ? "" + moneyOf(person) : INDEX;
    }

    String lot(int person, int gauge, int yarn) {
        if (!isPerson(person)) return INDEX;
        if (!in(gauge, 5, 20) || !in(yarn, 1, 100000)) return ARGUMENT;
        if (lots.size() == 20) return STATE;
        lots.add(new int[] {person, gauge, yarn});
        return "" + (lots.size() - 1);
    }

    String swap(int lot, int other) {
        if (!numbers(lot, lots) || !numbers(other, lots)) return INDEX;
        int first = lots.get(lot)[0];
        int second = lots.get(other)[0];
        if (first == second) return STATE;
        lots.get(lot)[0] = second;
        lots.get(other)[0] = first;
        return "" + second;
    }

    String left(int lot) {
        return numbers(lot, lots) ? "" + lots.get(lot)[2] : INDEX;
    }

    String project(int person, int pattern, int lot) {
        if (!isPerson(person) || !numbers(pattern, patterns) || !numbers(lot, lots)) return INDEX;
        Pattern knitted = patterns.get(pattern);
        if (!published.contains(pattern)) return STATE;
        if (knitted.owner != person && !knitted.buyers.contains(person)) return STATE;
        if (lots.get(lot)[0] != person || projects.size() == 12) return STATE;
        projects.add(new int[] {person, pattern, lot, 0});
        return "" + (projects.size() - 1);
    }

    String take(int project, int lot) {
        if (!numbers(project, projects) || !numbers(lot, lots)) return INDEX;
        int[] changed = projects.get(project);
        if (lots.get(lot)[0] != changed[0]) return STATE;
        int before = changed[2];
        changed[2] = lot;
        return "" + before;
    }

    String knit(int project, int rows) {
        if (!numbers(project, projects)) return INDEX;
        if (!in(rows, 1, 40)) return ARGUMENT;
        int[] knitted = projects.get(project);
        int[] lot = lots.get(knitted[2]);
        List<String> chart = chart(knitted[1]);
        int more = 0;
        for (int row = knitted[3]; row < chart.size() && more < rows; row++) {
            if (lot[0] != knitted[0] || lot[2] < yarn(chart.get(row), lot[1])) break;
            lot[2] -= yarn(chart.get(row), lot[1]);
            more++;
        }
        knitted[3] += more;
        return "" + more;
    }

    String progress(int project) {
        return numbers(project, projects) ? "" + projects.get(project)[3] : INDEX;
    }
}
