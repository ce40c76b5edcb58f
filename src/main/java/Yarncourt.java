import java.util.ArrayList;

/**
 * A knitting site: patterns and their charts, sales and rulings on copies, yarn by lots, and projects
 * that are knitted by rows. ../shared/DOC.md says what each call promises.
 */
public final class Yarncourt {
    public static final int NONE = -1;
    public static final int NOTHING = 0, KNIT = 1, PURL = 2;

    private static final int PEOPLE = 5;
    private static final int MOST_PATTERNS = 16;
    private static final int MOST_LOTS = 20;
    private static final int MOST_PROJECTS = 12;
    private static final int MOST_LINES = 6;
    private static final int MOST_ROWS = 40;
    private static final int WIDEST_FIRST_ROW = 20;
    private static final int WIDEST_ROW = 40;
    private static final int HIGHEST_PRICE = 1000;
    private static final int MOST_IN_TURN = 9;
    private static final int STEEPEST_SHAPING = 3;
    private static final int MOST_TIMES = 20;
    private static final int LEAST_GAUGE = 5;
    private static final int HIGHEST_GAUGE = 20;
    private static final int USUAL_GAUGE = 10;
    private static final int YARN_OF_A_KNIT = 2;
    private static final int YARN_OF_A_PURL = 3;
    private static final int MOST_YARN = 100000;

    private final ArrayList<Pattern> patterns = new ArrayList<>();
    private final ArrayList<Pattern> inOrderOfPublishing = new ArrayList<>();
    private final ArrayList<Lot> lots = new ArrayList<>();
    private final ArrayList<Project> projects = new ArrayList<>();
    private final int[] purses = new int[PEOPLE];

    public Yarncourt() {
    }

    // ---- patterns

    public int begin(int owner, int width, int price)
            throws IndexOutOfBoundsException, IllegalArgumentException, IllegalStateException {
        checkPerson(owner);
        checkRange(width, 1, WIDEST_FIRST_ROW);
        checkRange(price, 0, HIGHEST_PRICE);
        checkRoomForPattern();
        return addPattern(owner, width, price).number;
    }

    public int line(int pattern, int knits, int purls, int shaping, int times)
            throws IndexOutOfBoundsException, IllegalArgumentException, IllegalStateException {
        Pattern altered = patternAt(pattern);
        checkRange(knits, 0, MOST_IN_TURN);
        checkRange(purls, 0, MOST_IN_TURN);
        checkRange(shaping, -STEEPEST_SHAPING, STEEPEST_SHAPING);
        checkRange(times, 1, MOST_TIMES);
        if (knits == 0 && purls == 0) {
            throw new IllegalArgumentException("a line without stitches");
        }
        if (altered.isPublished() || !altered.takesLine(times)) {
            throw new IllegalStateException("the pattern takes no such line");
        }
        altered.addLine(knits, purls, shaping, times);
        return altered.chart.rowCount;
    }

    public int anew(int pattern, int gauge)
            throws IndexOutOfBoundsException, IllegalArgumentException, IllegalStateException {
        Pattern old = patternAt(pattern);
        checkGauge(gauge);
        if (old.hasNoLines() || old.program.rowsFor(gauge) > MOST_ROWS) {
            throw new IllegalStateException("the pattern can't be worked out for that gauge");
        }
        checkRoomForPattern();
        int width = within(forGauge(old.program.firstWidth, gauge), 1, WIDEST_FIRST_ROW);
        Pattern made = addPattern(old.owner, width, old.price);
        made.addLinesFor(gauge, old.program);
        return made.number;
    }

    public int publish(int pattern) throws IndexOutOfBoundsException, IllegalStateException {
        Pattern published = patternAt(pattern);
        if (published.isPublished() || published.hasNoLines()) {
            throw new IllegalStateException("the pattern can't be published");
        }
        Pattern first = firstOfSameChart(published);
        published.original = first;
        inOrderOfPublishing.add(published);
        return first.number;
    }

    public int original(int pattern) throws IndexOutOfBoundsException {
        Pattern first = patternAt(pattern).original;
        return first == null ? NONE : first.number;
    }

    public int rows(int pattern) throws IndexOutOfBoundsException {
        return patternAt(pattern).chart.rowCount;
    }

    public int stitch(int pattern, int row, int place) throws IndexOutOfBoundsException {
        Pattern asked = patternAt(pattern);
        checkPlace(asked, row, place);
        return asked.chart.stitchAt(row, place);
    }

    public int stitchByWork(int pattern, int row, int place) throws IndexOutOfBoundsException {
        Pattern asked = patternAt(pattern);
        checkPlace(asked, row, place);
        return asked.program.workTo(row, place);
    }

    public int need(int pattern, int gauge) throws IndexOutOfBoundsException, IllegalArgumentException {
        Pattern asked = patternAt(pattern);
        checkGauge(gauge);
        return gauge * asked.chart.yarnOfAllRows();
    }

    // ---- sales and rulings

    public int buy(int pattern, int person) throws IndexOutOfBoundsException, IllegalStateException {
        Pattern sold = patternAt(pattern);
        checkPerson(person);
        if (!sold.isPublished() || sold.barred || sold.mayBeKnittedBy(person)) {
            throw new IllegalStateException("the pattern is not for sale to that person");
        }
        sold.boughtBy[person] = true;
        sold.takings += sold.price;
        purses[person] -= sold.price;
        purses[sold.owner] += sold.price;
        return purses[sold.owner];
    }

    public int rule(int pattern) throws IndexOutOfBoundsException, IllegalStateException {
        Pattern copy = patternAt(pattern);
        Pattern first = copy.original;
        if (first == null || first.owner == copy.owner || copy.barred) {
            throw new IllegalStateException("the pattern is no copy, or is barred");
        }
        copy.barred = true;
        purses[copy.owner] -= copy.takings;
        purses[first.owner] += copy.takings;
        return copy.takings;
    }

    public int money(int person) throws IndexOutOfBoundsException {
        checkPerson(person);
        return purses[person];
    }

    // ---- yarn and projects

    public int lot(int person, int gauge, int yarn)
            throws IndexOutOfBoundsException, IllegalArgumentException, IllegalStateException {
        checkPerson(person);
        checkGauge(gauge);
        checkRange(yarn, 1, MOST_YARN);
        int number = lots.size();
        if (number >= MOST_LOTS) {
            throw new IllegalStateException("no more lots");
        }
        lots.add(new Lot(number, person, gauge, yarn));
        return number;
    }

    public int swap(int lot, int other) throws IndexOutOfBoundsException, IllegalStateException {
        Lot one = lotAt(lot);
        Lot another = lotAt(other);
        if (one.person == another.person) {
            throw new IllegalStateException("both lots are one person's");
        }
        int before = one.person;
        one.person = another.person;
        another.person = before;
        return one.person;
    }

    public int left(int lot) throws IndexOutOfBoundsException {
        return lotAt(lot).yarn;
    }

    public int project(int person, int pattern, int lot) throws IndexOutOfBoundsException, IllegalStateException {
        checkPerson(person);
        Pattern knitted = patternAt(pattern);
        Lot used = lotAt(lot);
        int number = projects.size();
        if (!knitted.isPublished() || !knitted.mayBeKnittedBy(person)
                || used.person != person || number >= MOST_PROJECTS) {
            throw new IllegalStateException("the project can't be begun");
        }
        projects.add(new Project(person, knitted, used));
        return number;
    }

    public int take(int project, int lot) throws IndexOutOfBoundsException, IllegalStateException {
        Project changed = projectAt(project);
        Lot taken = lotAt(lot);
        if (taken.person != changed.person) {
            throw new IllegalStateException("the lot is another one's");
        }
        int before = changed.lot.number;
        changed.lot = taken;
        return before;
    }

    public int knit(int project, int rows) throws IndexOutOfBoundsException, IllegalArgumentException {
        Project worked = projectAt(project);
        checkRange(rows, 1, MOST_ROWS);
        return worked.knitUpTo(rows);
    }

    public int progress(int project) throws IndexOutOfBoundsException {
        return projectAt(project).knitted;
    }

    // ---- what the calls share

    private Pattern patternAt(int number) {
        if (number < 0 || number >= patterns.size()) {
            throw new IndexOutOfBoundsException("no such pattern");
        }
        return patterns.get(number);
    }

    private Lot lotAt(int number) {
        if (number < 0 || number >= lots.size()) {
            throw new IndexOutOfBoundsException("no such lot");
        }
        return lots.get(number);
    }

    private Project projectAt(int number) {
        if (number < 0 || number >= projects.size()) {
            throw new IndexOutOfBoundsException("no such project");
        }
        return projects.get(number);
    }

    private void checkRoomForPattern() {
        if (patterns.size() >= MOST_PATTERNS) {
            throw new IllegalStateException("no more patterns");
        }
    }

    private Pattern addPattern(int owner, int width, int price) {
        Pattern added = new Pattern(patterns.size(), owner, width, price);
        patterns.add(added);
        return added;
    }

    private Pattern firstOfSameChart(Pattern published) {
        for (int i = 0; i < inOrderOfPublishing.size(); i++) {
            Pattern earlier = inOrderOfPublishing.get(i);
            if (earlier.chart.isSameAs(published.chart)) {
                return earlier;
            }
        }
        return published;
    }

    private static void checkPerson(int person) {
        if (person < 0 || person >= PEOPLE) {
            throw new IndexOutOfBoundsException("no such person");
        }
    }

    private static void checkPlace(Pattern pattern, int row, int place) {
        if (row < 0 || row >= pattern.chart.rowCount || place < 0) {
            throw new IndexOutOfBoundsException("no such row or place");
        }
    }

    private static void checkGauge(int gauge) {
        checkRange(gauge, LEAST_GAUGE, HIGHEST_GAUGE);
    }

    private static void checkRange(int value, int least, int most) {
        if (value < least || value > most) {
            throw new IllegalArgumentException("out of range");
        }
    }

    private static int within(int value, int least, int most) {
        return Math.min(Math.max(value, least), most);
    }

    private static int forGauge(int amount, int gauge) {
        return amount * gauge / USUAL_GAUGE;
    }

    private static int widthAfter(int width, int shaping) {
        return within(width + shaping, 1, WIDEST_ROW);
    }

    /** What a pattern tells the knitter: its first width and its lines. */
    private static final class Program {
        final int firstWidth;
        private final int[] knits = new int[MOST_LINES];
        private final int[] purls = new int[MOST_LINES];
        private final int[] shaping = new int[MOST_LINES];
        private final int[] times = new int[MOST_LINES];
        private int lineCount = 0;

        Program(int firstWidth) {
            this.firstWidth = firstWidth;
        }

        void append(int knitsOfLine, int purlsOfLine, int shapingOfLine, int timesOfLine) {
            if (lineCount < MOST_LINES) {
                knits[lineCount] = knitsOfLine;
                purls[lineCount] = purlsOfLine;
                shaping[lineCount] = shapingOfLine;
                times[lineCount] = timesOfLine;
                lineCount++;
            }
        }

        int timesFor(int gauge, int line) {
            return Math.max(1, forGauge(times[line], gauge));
        }

        int rowsFor(int gauge) {
            int sum = 0;
            for (int line = 0; line < lineCount; line++) {
                sum += timesFor(gauge, line);
            }
            return sum;
        }

        // Never looks at the chart, so that the two ways to a stitch can check each other.
        int workTo(int row, int place) {
            int width = firstWidth;
            int worked = 0;
            for (int line = 0; line < lineCount; line++) {
                for (int time = 0; time < times[line]; time++) {
                    if (worked == row) {
                        return place < width ? workAlong(line, place) : NOTHING;
                    }
                    width = widthAfter(width, shaping[line]);
                    worked++;
                }
            }
            return NOTHING;
        }

        private int workAlong(int line, int place) {
            int lastInTurn = knits[line] + purls[line] - 1;
            int inTurn = 0;
            for (int worked = 0; worked < place; worked++) {
                inTurn = inTurn < lastInTurn ? inTurn + 1 : 0;
            }
            return inTurn < knits[line] ? KNIT : PURL;
        }
    }

    /** The stitches that a pattern makes; places that are not stitched hold NOTHING. */
    private static final class Chart {
        int rowCount = 0;
        private final int[] stitches = new int[MOST_ROWS * WIDEST_ROW];
        private final int[] yarnOfRow = new int[MOST_ROWS];
        private int nextWidth;

        Chart(int firstWidth) {
            nextWidth = firstWidth;
        }

        void drawLine(int knits, int purls, int shaping, int times) {
            for (int time = 0; time < times && rowCount < MOST_ROWS; time++) {
                yarnOfRow[rowCount] = drawRow(rowCount * WIDEST_ROW, knits, purls);
                nextWidth = widthAfter(nextWidth, shaping);
                rowCount++;
            }
        }

        private int drawRow(int start, int knits, int purls) {
            int yarn = 0;
            int inTurn = 0;
            for (int place = 0; place < nextWidth; place++) {
                boolean isKnit = inTurn < knits;
                stitches[start + place] = isKnit ? KNIT : PURL;
                yarn += isKnit ? YARN_OF_A_KNIT : YARN_OF_A_PURL;
                inTurn++;
                if (inTurn == knits + purls) {
                    inTurn = 0;
                }
            }
            return yarn;
        }

        int stitchAt(int row, int place) {
            return place < WIDEST_ROW ? stitches[row * WIDEST_ROW + place] : NOTHING;
        }

        int yarnOf(int row) {
            return yarnOfRow[row];
        }

        int yarnOfAllRows() {
            int sum = 0;
            for (int row = 0; row < rowCount; row++) {
                sum += yarnOfRow[row];
            }
            return sum;
        }

        // The widths need no look of their own: a narrower row holds NOTHING where a wider one has a stitch.
        boolean isSameAs(Chart other) {
            if (rowCount != other.rowCount) {
                return false;
            }
            for (int i = 0; i < rowCount * WIDEST_ROW; i++) {
                if (stitches[i] != other.stitches[i]) {
                    return false;
                }
            }
            return true;
        }
    }

    /** A pattern with what became of it: published if it has an original, sold, barred. */
    private static final class Pattern {
        final int number;
        final int owner;
        final int price;
        final Program program;
        final Chart chart;
        final boolean[] boughtBy = new boolean[PEOPLE];
        Pattern original = null;
        int takings = 0;
        boolean barred = false;

        Pattern(int number, int owner, int width, int price) {
            this.number = number;
            this.owner = owner;
            this.price = price;
            this.program = new Program(width);
            this.chart = new Chart(width);
        }

        boolean isPublished() {
            return original != null;
        }

        boolean hasNoLines() {
            return program.lineCount == 0;
        }

        boolean takesLine(int times) {
            return program.lineCount < MOST_LINES && chart.rowCount + times <= MOST_ROWS;
        }

        void addLine(int knits, int purls, int shaping, int times) {
            program.append(knits, purls, shaping, times);
            chart.drawLine(knits, purls, shaping, times);
        }

        void addLinesFor(int gauge, Program old) {
            for (int line = 0; line < old.lineCount; line++) {
                addLine(old.knits[line], old.purls[line], old.shaping[line], old.timesFor(gauge, line));
            }
        }

        // A bar does not count here: who bought a copy before the ruling may still knit it.
        boolean mayBeKnittedBy(int person) {
            return person == owner || boughtBy[person];
        }
    }

    /** Some yarn of one gauge. */
    private static final class Lot {
        final int number;
        final int gauge;
        int person;
        int yarn;

        Lot(int number, int person, int gauge, int yarn) {
            this.number = number;
            this.gauge = gauge;
            this.person = person;
            this.yarn = yarn;
        }
    }

    /** A person's knitting of a pattern; its lot may have become another person's by a swap. */
    private static final class Project {
        final int person;
        private final Pattern pattern;
        Lot lot;
        int knitted = 0;

        Project(int person, Pattern pattern, Lot lot) {
            this.person = person;
            this.pattern = pattern;
            this.lot = lot;
        }

        int knitUpTo(int most) {
            int more = 0;
            while (more < most && canKnitRow()) {
                lot.yarn -= yarnOfNextRow();
                knitted++;
                more++;
            }
            return more;
        }

        private boolean canKnitRow() {
            return knitted < pattern.chart.rowCount
                    && lot.person == person
                    && lot.yarn >= yarnOfNextRow();
        }

        private int yarnOfNextRow() {
            return lot.gauge * pattern.chart.yarnOf(knitted);
        }
    }
}
