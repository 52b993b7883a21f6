import java.util.Arrays;

/**
 * Parts that break far from where they are mended: a tree of shelves, the asks that go up it and
 * the good parts that come down. The promises that it keeps stand in the document DOC.md.
 */
public final class SpareShelves {
    public static final int NONE = -1, BAD = -2, STATE = -3, FULL = -4;

    // How many kinds there may be, and how many shelves.
    private static final int MOST = 8;
    private static final int WORKS = 0;
    private static final int WORKS_MEND_DAYS = 10;

    private static final int TOP_PRICE = 1000, TOP_BUY_DAYS = 50, TOP_WAY = 20, TOP_MEND_DAYS = 30;
    private static final int TOP_RATE = 10000, TOP_STOCK = 9, TOP_DAYS = 60, TOP_TIME = 5000;
    private static final int TOP_BOUGHT = 200, TOP_ASKS = 100, TOP_DUES = 100;

    // Who asks.
    private static final int MACHINE = 0, BELOW = 1, MENDING = 2;
    // How a part breaks.
    private static final int PLAIN = 0, BY_CORE = 1, SCRAP = 2;
    // What is due.
    private static final int GOOD_COMES = 0, BROKEN_COMES = 1, MENDED = 2, BOUGHT = 3;
    // Stands for every shelf, kind, sort or asker where asks and dues are looked for.
    private static final int ANY = -1;

    private final Kinds kinds = new Kinds();
    private final Tree tree = new Tree();
    private final int[][] good = new int[MOST][MOST];
    private final int[][] rates = new int[MOST][MOST];
    private final int[] stood = new int[MOST];
    private final int[] flows = new int[MOST];
    private final Line asks = new Line();
    private final Line dues = new Line();
    private int time;

    public SpareShelves() {
        time = 0;
    }

    public int kind(int price, int days, int core) {
        if (isOutside(price, 1, TOP_PRICE) || isOutside(days, 1, TOP_BUY_DAYS)) {
            return BAD;
        }
        if (core != NONE && !kinds.has(core)) {
            return NONE;
        }
        if (kinds.size >= MOST) {
            return FULL;
        }
        int k = kinds.size;
        kinds.price[k] = price;
        kinds.buyDays[k] = days;
        kinds.core[k] = core;
        kinds.size++;
        tree.mendDays[WORKS][k] = WORKS_MEND_DAYS;
        return k;
    }

    public int shelf(int up, int way) {
        if (!tree.has(up)) {
            return NONE;
        }
        if (isOutside(way, 1, TOP_WAY)) {
            return BAD;
        }
        if (tree.size >= MOST) {
            return FULL;
        }
        int s = tree.size;
        tree.up[s] = up;
        tree.way[s] = way;
        tree.size++;
        return s;
    }

    public int mend(int s, int k, int days) {
        if (isNoPlace(s, k)) {
            return NONE;
        }
        if (isOutside(days, 0, TOP_MEND_DAYS) || (s == WORKS && days == 0)) {
            return BAD;
        }
        if (days == 0 && mendsThatWait(s, k) > 0) {
            return STATE;
        }
        int before = tree.mendDays[s][k];
        tree.mendDays[s][k] = days;
        return before;
    }

    public int stock(int s, int k, int n) {
        if (isNoPlace(s, k)) {
            return NONE;
        }
        if (isOutside(n, 1, TOP_STOCK)) {
            return BAD;
        }
        if (kinds.bought[k] + n > TOP_BOUGHT) {
            return FULL;
        }
        for (int i = 0; i < n; i++) {
            kinds.bought[k]++;
            lands(s, k);
        }
        return good[s][k];
    }

    public int rate(int s, int k, int r) {
        if (isNoPlace(s, k)) {
            return NONE;
        }
        if (isOutside(r, 0, TOP_RATE)) {
            return BAD;
        }
        int before = rates[s][k];
        rates[s][k] = r;
        return before;
    }

    public int fails(int s, int k, int how) {
        if (isNoPlace(s, k)) {
            return NONE;
        }
        if (isOutside(how, PLAIN, SCRAP)) {
            return BAD;
        }
        if (how == BY_CORE && kinds.core[k] == NONE) {
            return STATE;
        }
        if (asks.size > TOP_ASKS || dues.size > TOP_DUES) {
            return FULL;
        }
        boolean goesOn = servesMachine(s, k);
        kinds.broke[k]++;
        if (how == SCRAP) {
            kinds.scrapped[k]++;
            asksGoUp(s, k, WORKS);
            kinds.bought[k]++;
            dues.add(WORKS, k, BOUGHT, time + kinds.buyDays[k], NONE);
        } else {
            goesBack(s, k, how);
            asksGoUp(s, k, tree.firstThatMends(s, k));
        }
        return goesOn ? 1 : 0;
    }

    public int days(int n) {
        if (isOutside(n, 1, TOP_DAYS)) {
            return BAD;
        }
        if (time + n > TOP_TIME) {
            return FULL;
        }
        for (int i = 0; i < n; i++) {
            time++;
            doWhatIsDue();
            countStanding();
        }
        return time;
    }

    public int choose() {
        int bestShelf = NONE;
        int bestKind = NONE;
        long bestWant = 0;
        long bestPrice = 1;
        for (int s = 0; s < tree.size; s++) {
            for (int k = 0; k < kinds.size; k++) {
                long want = wantOf(s, k);
                long price = kinds.price[k];
                // the two fractions, each times both prices
                if (want * bestPrice > bestWant * price) {
                    bestShelf = s;
                    bestKind = k;
                    bestWant = want;
                    bestPrice = price;
                }
            }
        }
        if (isNoPlace(bestShelf, bestKind)) {
            return NONE;
        }
        if (kinds.bought[bestKind] >= TOP_BOUGHT) {
            return FULL;
        }
        kinds.bought[bestKind]++;
        lands(bestShelf, bestKind);
        return MOST * bestShelf + bestKind;
    }

    public int about(int s, int k, int what) {
        if (isNoPlace(s, k)) {
            return NONE;
        }
        switch (what) {
            case 0:
                return good[s][k];
            case 1:
                return asks.tally(s, k, ANY, ANY);
            case 2:
                return asks.tally(s, k, MACHINE, ANY);
            case 3:
                return dues.tally(s, k, MENDED, ANY);
            case 4:
                return mendsThatWait(s, k);
            case 5:
                return dues.tally(s, k, GOOD_COMES, ANY);
            case 6:
                return dues.tally(s, k, BROKEN_COMES, ANY);
            case 7:
                return dues.tally(s, k, BOUGHT, ANY);
            default:
                return NONE;
        }
    }

    public int ask(int s, int k, int i, int what) {
        if (isNoPlace(s, k)) {
            return NONE;
        }
        int at = asks.find(s, k, ANY, i);
        switch (what) {
            case 0:
                return asks.read(at, Line.SORT);
            case 1:
                return asks.read(at, Line.TIME);
            case 2:
                return asks.read(at, Line.MORE);
            default:
                return NONE;
        }
    }

    public int all(int k, int what) {
        if (!kinds.has(k)) {
            return NONE;
        }
        switch (what) {
            case 0:
                return kinds.bought[k];
            case 1:
                return kinds.scrapped[k];
            case 2:
                return goodOnShelves(k);
            case 3:
                return dues.tally(ANY, k, GOOD_COMES, ANY) + dues.tally(ANY, k, BROKEN_COMES, ANY);
            case 4:
                return dues.tally(ANY, k, MENDED, ANY) + mendsThatWait(ANY, k);
            case 5:
                return dues.tally(ANY, k, BOUGHT, ANY);
            case 6:
                return kinds.machinesTook[k];
            case 7:
                return kinds.mendsTook[k];
            case 8:
                return kinds.broke[k];
            default:
                return NONE;
        }
    }

    public int field(int s, int what) {
        if (!tree.has(s)) {
            return NONE;
        }
        switch (what) {
            case 0:
                return tree.up[s];
            case 1:
                return tree.way[s];
            case 2:
                return asks.tally(s, ANY, MACHINE, ANY);
            case 3:
                return stood[s];
            case 4:
                // asks are kept in the order in which they came, so the first one found is the oldest
                return asks.read(asks.find(s, ANY, MACHINE, 0), Line.TIME);
            default:
                return NONE;
        }
    }

    public int mender(int s, int k) {
        if (isNoPlace(s, k)) {
            return NONE;
        }
        return tree.firstThatMends(s, k);
    }

    public int pipe(int s, int k, int what) {
        if (isNoPlace(s, k)) {
            return NONE;
        }
        switch (what) {
            case 0:
                return flowOf(s, k);
            case 1:
                return pipeOf(s, k);
            case 2:
                return wantOf(s, k);
            case 3:
                return rates[s][k];
            default:
                return NONE;
        }
    }

    public int worth() {
        int sum = 0;
        for (int k = 0; k < kinds.size; k++) {
            sum += kinds.price[k] * (kinds.bought[k] - kinds.scrapped[k]);
        }
        return sum;
    }

    public int count(int what) {
        switch (what) {
            case 0:
                return kinds.size;
            case 1:
                return tree.size;
            case 2:
                return time;
            case 3:
                return asks.size;
            case 4:
                return dues.size;
            case 5:
                return asks.tally(ANY, ANY, MACHINE, ANY);
            case 6:
                return stoodOfAll();
            default:
                return NONE;
        }
    }

    private static boolean isOutside(int number, int least, int greatest) {
        return number < least || number > greatest;
    }

    private boolean isNoPlace(int s, int k) {
        return !tree.has(s) || !kinds.has(k);
    }

    /** The mends of a kind that wait for a core at a shelf, or at ANY. */
    private int mendsThatWait(int s, int k) {
        return asks.tally(s, ANY, MENDING, k);
    }

    private boolean takesGood(int s, int k) {
        if (good[s][k] == 0) {
            return false;
        }
        good[s][k]--;
        return true;
    }

    private boolean servesMachine(int s, int k) {
        if (takesGood(s, k)) {
            kinds.machinesTook[k]++;
            return true;
        }
        asks.add(s, k, MACHINE, time, NONE);
        return false;
    }

    private void lands(int s, int k) {
        int first = asks.find(s, k, ANY, 0);
        if (first == NONE) {
            good[s][k]++;
            return;
        }
        int by = asks.read(first, Line.SORT);
        int who = asks.read(first, Line.MORE);
        asks.drop(first);
        if (by == MACHINE) {
            kinds.machinesTook[k]++;
        } else if (by == BELOW) {
            goesDown(who, k);
        } else {
            mendGetsCore(s, k, who);
        }
    }

    private void goesDown(int to, int k) {
        dues.add(to, k, GOOD_COMES, time + tree.way[to], NONE);
    }

    /** A broken part at a shelf; one that comes where its kind is no longer mended goes on in the same way. */
    private void goesBack(int s, int k, int how) {
        int end = tree.firstThatMends(s, k);
        int core = kinds.core[k];
        if (end != s) {
            setsOut(s, k, end, how);
        } else if (how != BY_CORE || core == NONE) {
            mendBegins(s, k);
        } else if (takesGood(s, core)) {
            mendGetsCore(s, core, k);
        } else {
            asks.add(s, core, MENDING, time, k);
        }
    }

    private void setsOut(int s, int k, int end, int how) {
        dues.add(end, k, BROKEN_COMES, time + tree.waysUp(s, end), how);
    }

    private void mendBegins(int s, int k) {
        dues.add(s, k, MENDED, time + tree.mendDays[s][k], NONE);
    }

    private void mendGetsCore(int s, int core, int k) {
        kinds.mendsTook[core]++;
        kinds.broke[core]++;
        int end = tree.firstThatMends(s, core);
        if (end == s) {
            mendBegins(s, core);
        } else {
            setsOut(s, core, end, PLAIN);
        }
        asksGoUp(s, core, end);
        mendBegins(s, k);
    }

    private void asksGoUp(int s, int k, int end) {
        int at = s;
        for (int step = 0; step < MOST && at > end; step++) {
            int above = tree.up[at];
            if (takesGood(above, k)) {
                goesDown(at, k);
            } else {
                asks.add(above, k, BELOW, time, at);
            }
            at = above;
        }
    }

    private void doWhatIsDue() {
        // what is added meanwhile is due on a later day, so only what was there before is looked at
        int before = dues.size;
        int at = 0;
        for (int i = 0; i < before; i++) {
            if (dues.read(at, Line.TIME) != time) {
                at++;
                continue;
            }
            int s = dues.read(at, Line.SHELF);
            int k = dues.read(at, Line.KIND);
            int sort = dues.read(at, Line.SORT);
            int how = dues.read(at, Line.MORE);
            dues.drop(at);
            if (sort == BROKEN_COMES) {
                goesBack(s, k, how);
            } else {
                lands(s, k);
            }
        }
    }

    private void countStanding() {
        for (int i = 0; i < asks.size; i++) {
            if (asks.read(i, Line.SORT) == MACHINE) {
                stood[asks.read(i, Line.SHELF)]++;
            }
        }
    }

    private int stoodOfAll() {
        int sum = 0;
        for (int s = 0; s < tree.size; s++) {
            sum += stood[s];
        }
        return sum;
    }

    private int goodOnShelves(int k) {
        int sum = 0;
        for (int s = 0; s < tree.size; s++) {
            sum += good[s][k];
        }
        return sum;
    }

    private int flowOf(int s, int k) {
        for (int t = 0; t < tree.size; t++) {
            flows[t] = rates[t][k];
        }
        // an up has a lesser number, so each flow is whole before it is handed on
        for (int t = tree.size - 1; t > s; t--) {
            if (tree.mendDays[t][k] == 0) {
                flows[tree.up[t]] += flows[t];
            }
        }
        return flows[s];
    }

    private int pipeOf(int s, int k) {
        int mendDays = tree.mendDays[s][k];
        return flowOf(s, k) * (mendDays > 0 ? mendDays : tree.way[s]);
    }

    private int wantOf(int s, int k) {
        return Math.max(0, pipeOf(s, k) - 1000 * good[s][k]);
    }

    /** The kinds, and what became of the parts of each. */
    private static final class Kinds {
        final int[] price = new int[MOST];
        final int[] buyDays = new int[MOST];
        final int[] core = new int[MOST];
        final int[] bought = new int[MOST];
        final int[] scrapped = new int[MOST];
        final int[] machinesTook = new int[MOST];
        final int[] mendsTook = new int[MOST];
        final int[] broke = new int[MOST];
        int size = 0;

        boolean has(int k) {
            return k >= 0 && k < size;
        }
    }

    /** The shelves, and how many days each mends each kind in (0: it does not). */
    private static final class Tree {
        final int[] up = new int[MOST];
        final int[] way = new int[MOST];
        final int[][] mendDays = new int[MOST][MOST];
        int size = 1;

        Tree() {
            up[WORKS] = NONE;
        }

        boolean has(int s) {
            return s >= 0 && s < size;
        }

        int firstThatMends(int s, int k) {
            int at = s;
            for (int step = 0; step < MOST && at > WORKS && mendDays[at][k] == 0; step++) {
                at = up[at];
            }
            return at;
        }

        int waysUp(int s, int end) {
            int sum = 0;
            int at = s;
            for (int step = 0; step < MOST && at > end; step++) {
                sum += way[at];
                at = up[at];
            }
            return sum;
        }
    }

    /**
     * Asks, or things that are due, in the order in which they came. The row grows, since the
     * document's limit of a hundred is looked at only when a part breaks: what follows later from
     * parts on their way may add more.
     */
    private static final class Line {
        static final int SHELF = 0, KIND = 1, SORT = 2, TIME = 3;
        // Of an ask the shelf or the kind that it is for, of a broken part how it broke.
        static final int MORE = 4;
        private static final int WIDTH = 5, FIRST_ROOM = 128;

        private int[] cells = new int[FIRST_ROOM * WIDTH];
        int size = 0;

        void add(int shelf, int kind, int sort, int time, int more) {
            int start = size * WIDTH;
            if (start + WIDTH > cells.length) {
                cells = Arrays.copyOf(cells, 2 * cells.length);
            }
            cells[start + SHELF] = shelf;
            cells[start + KIND] = kind;
            cells[start + SORT] = sort;
            cells[start + TIME] = time;
            cells[start + MORE] = more;
            size++;
        }

        void drop(int i) {
            if (i < 0 || i >= size) {
                return;
            }
            int start = i * WIDTH;
            int next = start + WIDTH;
            System.arraycopy(cells, next, cells, start, size * WIDTH - next);
            size--;
        }

        int read(int i, int column) {
            return i < 0 || i >= size ? NONE : cells[i * WIDTH + column];
        }

        /** Where the entry stands that is number nth, from 0 on, of those that fit; NONE if there is none. */
        int find(int shelf, int kind, int sort, int nth) {
            int left = nth;
            for (int i = 0; i < size; i++) {
                if (fits(i, shelf, kind, sort, ANY)) {
                    if (left == 0) {
                        return i;
                    }
                    left--;
                }
            }
            return NONE;
        }

        int tally(int shelf, int kind, int sort, int more) {
            int sum = 0;
            for (int i = 0; i < size; i++) {
                if (fits(i, shelf, kind, sort, more)) {
                    sum++;
                }
            }
            return sum;
        }

        private boolean fits(int i, int shelf, int kind, int sort, int more) {
            int start = i * WIDTH;
            return (shelf == ANY || cells[start + SHELF] == shelf)
                && (kind == ANY || cells[start + KIND] == kind)
                && (sort == ANY || cells[start + SORT] == sort)
                && (more == ANY || cells[start + MORE] == more);
        }
    }
}
