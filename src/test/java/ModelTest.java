import java.util.ArrayList;
import java.util.Arrays;
import java.util.List;
import java.util.Random;

/** Long mixed runs of calls; every answer is compared with that of a second program that keeps each part as an object. */
public final class ModelTest {
    private static final int RUNS = 200, MOST_CALLS = 512, MOST_WRONG = 20;
    private static final int NONE = -1, BAD = -2, STATE = -3, FULL = -4;

    private static int wrong = 0;

    /** Where a part is, or what became of it. */
    private enum Where { GOOD, DOWN, UP, MEND, WAITS, COMING, MACHINE, CORE, SCRAPPED }

    private static final class Part {
        final int kind;
        Where where;
        int shelf;
        int due;
        long turn;
        boolean byCore;

        Part(int kind) {
            this.kind = kind;
        }
    }

    private static final class Ask {
        final int by, since, who;
        final Part mended;

        Ask(int by, int since, int who, Part mended) {
            this.by = by;
            this.since = since;
            this.who = who;
            this.mended = mended;
        }
    }

    private static final class Model {
        final List<int[]> kinds = new ArrayList<>();
        final List<int[]> shelves = new ArrayList<>();
        final List<Part> parts = new ArrayList<>();
        final List<List<Ask>> rows = new ArrayList<>();
        final int[][] mends = new int[8][8], rates = new int[8][8];
        final int[] bought = new int[8], broke = new int[8], stood = new int[8];
        int time = 0;
        long turns = 0;

        Model() {
            shelves.add(new int[] {NONE, 0});
            for (int i = 0; i < 64; i++) {
                rows.add(new ArrayList<>());
            }
        }

        boolean no(int s, int k) {
            return s < 0 || s >= shelves.size() || k < 0 || k >= kinds.size();
        }

        List<Ask> row(int s, int k) {
            return rows.get(8 * s + k);
        }

        int kind(int price, int days, int core) {
            if (price < 1 || price > 1000 || days < 1 || days > 50) {
                return BAD;
            }
            if (core < -1 || core >= kinds.size()) {
                return NONE;
            }
            if (kinds.size() == 8) {
                return FULL;
            }
            kinds.add(new int[] {price, days, core});
            mends[0][kinds.size() - 1] = 10;
            return kinds.size() - 1;
        }

        int shelf(int up, int way) {
            if (up < 0 || up >= shelves.size()) {
                return NONE;
            }
            if (way < 1 || way > 20) {
                return BAD;
            }
            if (shelves.size() == 8) {
                return FULL;
            }
            shelves.add(new int[] {up, way});
            return shelves.size() - 1;
        }

        int mend(int s, int k, int days) {
            if (no(s, k)) {
                return NONE;
            }
            if (days < 0 || days > 30 || s == 0 && days == 0) {
                return BAD;
            }
            if (days == 0 && number(Where.WAITS, s, k) > 0) {
                return STATE;
            }
            int was = mends[s][k];
            mends[s][k] = days;
            return was;
        }

        int stock(int s, int k, int n) {
            if (no(s, k)) {
                return NONE;
            }
            if (n < 1 || n > 9) {
                return BAD;
            }
            if (bought[k] + n > 200) {
                return FULL;
            }
            for (int i = 0; i < n; i++) {
                land(buy(k), s);
            }
            return number(Where.GOOD, s, k);
        }

        int rate(int s, int k, int r) {
            if (no(s, k)) {
                return NONE;
            }
            if (r < 0 || r > 10000) {
                return BAD;
            }
            int was = rates[s][k];
            rates[s][k] = r;
            return was;
        }

        int fails(int s, int k, int how) {
            if (no(s, k)) {
                return NONE;
            }
            if (how < 0 || how > 2) {
                return BAD;
            }
            if (how == 1 && kinds.get(k)[2] == NONE) {
                return STATE;
            }
            if (waiting() > 100 || later() > 100) {
                return FULL;
            }
            boolean served = come(s, k, new Ask(0, time, NONE, null));
            Part part = new Part(k);
            parts.add(part);
            broke[k]++;
            if (how == 2) {
                part.where = Where.SCRAPPED;
                up(s, k, 0);
                send(buy(k), Where.COMING, 0, kinds.get(k)[1]);
            } else {
                part.byCore = how == 1;
                back(part, s);
                up(s, k, mender(s, k));
            }
            return served ? 1 : 0;
        }

        int days(int n) {
            if (n < 1 || n > 60) {
                return BAD;
            }
            if (time + n > 5000) {
                return FULL;
            }
            for (int i = 0; i < n; i++) {
                day();
            }
            return time;
        }

        void day() {
            time++;
            List<Part> today = new ArrayList<>();
            for (Part p : parts) {
                if (isLater(p) && p.due == time) {
                    today.add(p);
                }
            }
            today.sort((a, b) -> Long.compare(a.turn, b.turn));
            for (Part p : today) {
                if (p.where == Where.UP) {
                    back(p, p.shelf);
                } else {
                    land(p, p.shelf);
                }
            }
            for (int s = 0; s < shelves.size(); s++) {
                stood[s] += field(s, 2);
            }
        }

        int choose() {
            int best = NONE;
            for (int i = 0; i < 64; i++) {
                if (!no(i / 8, i % 8) && pipe(i / 8, i % 8, 2) > 0 && (best == NONE || more(i, best))) {
                    best = i;
                }
            }
            if (best == NONE) {
                return NONE;
            }
            if (bought[best % 8] >= 200) {
                return FULL;
            }
            land(buy(best % 8), best / 8);
            return best;
        }

        boolean more(int a, int b) {
            return (long) pipe(a / 8, a % 8, 2) * kinds.get(b % 8)[0] > (long) pipe(b / 8, b % 8, 2) * kinds.get(a % 8)[0];
        }

        int about(int s, int k, int what) {
            if (no(s, k)) {
                return NONE;
            }
            return switch (what) {
                case 0 -> number(Where.GOOD, s, k);
                case 1 -> row(s, k).size();
                case 2 -> (int) row(s, k).stream().filter(a -> a.by == 0).count();
                case 3 -> number(Where.MEND, s, k);
                case 4 -> number(Where.WAITS, s, k);
                case 5 -> number(Where.DOWN, s, k);
                case 6 -> number(Where.UP, s, k);
                case 7 -> number(Where.COMING, s, k);
                default -> NONE;
            };
        }

        int ask(int s, int k, int i, int what) {
            if (no(s, k) || i < 0 || i >= row(s, k).size()) {
                return NONE;
            }
            Ask a = row(s, k).get(i);
            return what == 0 ? a.by : what == 1 ? a.since : what == 2 ? a.who : NONE;
        }

        int all(int k, int what) {
            if (no(0, k)) {
                return NONE;
            }
            return switch (what) {
                case 0 -> bought[k];
                case 1 -> number(Where.SCRAPPED, NONE, k);
                case 2 -> number(Where.GOOD, NONE, k);
                case 3 -> number(Where.DOWN, NONE, k) + number(Where.UP, NONE, k);
                case 4 -> number(Where.MEND, NONE, k) + number(Where.WAITS, NONE, k);
                case 5 -> number(Where.COMING, NONE, k);
                case 6 -> number(Where.MACHINE, NONE, k);
                case 7 -> number(Where.CORE, NONE, k);
                case 8 -> broke[k];
                default -> NONE;
            };
        }

        int field(int s, int what) {
            if (s < 0 || s >= shelves.size()) {
                return NONE;
            }
            int stand = 0;
            int since = NONE;
            for (int k = 0; k < kinds.size(); k++) {
                for (Ask a : row(s, k)) {
                    if (a.by == 0) {
                        stand++;
                        since = since == NONE ? a.since : Math.min(since, a.since);
                    }
                }
            }
            return what == 0 ? shelves.get(s)[0] : what == 1 ? shelves.get(s)[1] : what == 2 ? stand
                : what == 3 ? stood[s] : what == 4 ? since : NONE;
        }

        int mender(int s, int k) {
            if (no(s, k)) {
                return NONE;
            }
            return mends[s][k] > 0 ? s : mender(shelves.get(s)[0], k);
        }

        int pipe(int s, int k, int what) {
            if (no(s, k)) {
                return NONE;
            }
            int flow = rates[s][k];
            for (int t = 1; t < shelves.size(); t++) {
                if (shelves.get(t)[0] == s && mends[t][k] == 0) {
                    flow += pipe(t, k, 0);
                }
            }
            int pipe = flow * (mends[s][k] == 0 ? shelves.get(s)[1] : mends[s][k]);
            return what == 0 ? flow : what == 1 ? pipe : what == 2 ? Math.max(pipe - 1000 * number(Where.GOOD, s, k), 0)
                : what == 3 ? rates[s][k] : NONE;
        }

        int worth() {
            int sum = 0;
            for (int k = 0; k < kinds.size(); k++) {
                sum += kinds.get(k)[0] * bought[k] - kinds.get(k)[0] * number(Where.SCRAPPED, NONE, k);
            }
            return sum;
        }

        int count(int what) {
            int stand = 0;
            int days = 0;
            for (int s = 0; s < shelves.size(); s++) {
                stand += field(s, 2);
                days += stood[s];
            }
            return switch (what) {
                case 0 -> kinds.size();
                case 1 -> shelves.size();
                case 2 -> time;
                case 3 -> waiting();
                case 4 -> later();
                case 5 -> stand;
                case 6 -> days;
                default -> NONE;
            };
        }

        int waiting() {
            int sum = 0;
            for (List<Ask> row : rows) {
                sum += row.size();
            }
            return sum;
        }

        boolean isLater(Part p) {
            return p.where == Where.DOWN || p.where == Where.UP || p.where == Where.MEND || p.where == Where.COMING;
        }

        int later() {
            return (int) parts.stream().filter(this::isLater).count();
        }

        int number(Where where, int s, int k) {
            int sum = 0;
            for (Part p : parts) {
                if (p.where == where && p.kind == k && (s == NONE || p.shelf == s)) {
                    sum++;
                }
            }
            return sum;
        }

        Part buy(int k) {
            Part p = new Part(k);
            parts.add(p);
            bought[k]++;
            return p;
        }

        void send(Part p, Where where, int to, int days) {
            p.where = where;
            p.shelf = to;
            p.due = time + days;
            p.turn = turns++;
        }

        void land(Part p, int s) {
            p.where = Where.GOOD;
            p.shelf = s;
            if (!row(s, p.kind).isEmpty()) {
                serve(p, row(s, p.kind).remove(0));
            }
        }

        boolean come(int s, int k, Ask a) {
            for (Part p : parts) {
                if (p.where == Where.GOOD && p.shelf == s && p.kind == k) {
                    serve(p, a);
                    return true;
                }
            }
            row(s, k).add(a);
            return false;
        }

        void serve(Part p, Ask a) {
            if (a.by == 0) {
                p.where = Where.MACHINE;
            } else if (a.by == 1) {
                send(p, Where.DOWN, a.who, shelves.get(a.who)[1]);
            } else {
                int s = p.shelf;
                p.where = Where.CORE;
                Part core = new Part(p.kind);
                parts.add(core);
                broke[p.kind]++;
                back(core, s);
                up(s, p.kind, mender(s, p.kind));
                send(a.mended, Where.MEND, s, mends[s][a.mended.kind]);
            }
        }

        void back(Part p, int s) {
            int to = mender(s, p.kind);
            int days = 0;
            for (int t = s; t != to; t = shelves.get(t)[0]) {
                days += shelves.get(t)[1];
            }
            if (to != s) {
                send(p, Where.UP, to, days);
            } else if (p.byCore) {
                p.byCore = false;
                p.where = Where.WAITS;
                p.shelf = s;
                come(s, kinds.get(p.kind)[2], new Ask(2, time, p.kind, p));
            } else {
                send(p, Where.MEND, s, mends[s][p.kind]);
            }
        }

        void up(int s, int k, int end) {
            for (int t = s; t != end; t = shelves.get(t)[0]) {
                come(shelves.get(t)[0], k, new Ask(1, time, t, null));
            }
        }
    }

    /** A call by its name and its numbers, with the answer that the model gave to it. */
    private record Call(String name, int[] with, int answer) {
        @Override
        public String toString() {
            return name + Arrays.toString(with).replace('[', '(').replace(']', ')');
        }
    }

    private static int answerOf(SpareShelves x, String name, int... n) {
        return switch (name) {
            case "kind" -> x.kind(n[0], n[1], n[2]);
            case "shelf" -> x.shelf(n[0], n[1]);
            case "mend" -> x.mend(n[0], n[1], n[2]);
            case "stock" -> x.stock(n[0], n[1], n[2]);
            case "rate" -> x.rate(n[0], n[1], n[2]);
            case "fails" -> x.fails(n[0], n[1], n[2]);
            case "days" -> x.days(n[0]);
            case "choose" -> x.choose();
            case "about" -> x.about(n[0], n[1], n[2]);
            case "ask" -> x.ask(n[0], n[1], n[2], n[3]);
            case "all" -> x.all(n[0], n[1]);
            case "field" -> x.field(n[0], n[1]);
            case "mender" -> x.mender(n[0], n[1]);
            case "pipe" -> x.pipe(n[0], n[1], n[2]);
            case "worth" -> x.worth();
            default -> x.count(n[0]);
        };
    }

    private static Call asked(Model m, String name, int... n) {
        int answer = switch (name) {
            case "kind" -> m.kind(n[0], n[1], n[2]);
            case "shelf" -> m.shelf(n[0], n[1]);
            case "mend" -> m.mend(n[0], n[1], n[2]);
            case "stock" -> m.stock(n[0], n[1], n[2]);
            case "rate" -> m.rate(n[0], n[1], n[2]);
            case "fails" -> m.fails(n[0], n[1], n[2]);
            case "days" -> m.days(n[0]);
            case "choose" -> m.choose();
            case "about" -> m.about(n[0], n[1], n[2]);
            case "ask" -> m.ask(n[0], n[1], n[2], n[3]);
            case "all" -> m.all(n[0], n[1]);
            case "field" -> m.field(n[0], n[1]);
            case "mender" -> m.mender(n[0], n[1]);
            case "pipe" -> m.pipe(n[0], n[1], n[2]);
            case "worth" -> m.worth();
            default -> m.count(n[0]);
        };
        return new Call(name, n, answer);
    }

    /** What is played on a new object for each look, so that none is called more often than the document tells. */
    private static final class Run {
        final int number;
        final Model model = new Model();
        final List<Call> calls = new ArrayList<>();

        Run(int number) {
            this.number = number;
        }

        void call(String name, int... with) {
            calls.add(asked(model, name, with));
        }

        void compare(SpareShelves x, Call c) {
            int got = answerOf(x, c.name, c.with);
            if (got != c.answer) {
                wrong++;
                System.out.println("run " + number + ": " + c + " behind " + calls.size() + " calls answered " + got
                    + ", due is " + c.answer);
            }
        }

        SpareShelves played() {
            SpareShelves x = new SpareShelves();
            for (Call c : calls) {
                compare(x, c);
            }
            return x;
        }

        /** All that the model shows now is put to the class, as much to each new object as it may be called. */
        void look() {
            List<Call> looks = looks(model);
            int slice = MOST_CALLS - calls.size();
            for (int from = 0; from < looks.size() && wrong < MOST_WRONG; from += slice) {
                SpareShelves x = played();
                for (Call c : looks.subList(from, Math.min(looks.size(), from + slice))) {
                    compare(x, c);
                }
            }
        }
    }

    private static List<Call> looks(Model m) {
        List<Call> looks = new ArrayList<>();
        for (int what = -1; what < 8; what++) {
            looks.add(asked(m, "count", what));
        }
        looks.add(asked(m, "worth"));
        for (int k = -1; k <= m.kinds.size(); k++) {
            for (int what = -1; what < 10; what++) {
                looks.add(asked(m, "all", k, what));
            }
        }
        for (int s = -1; s <= m.shelves.size(); s++) {
            for (int what = -1; what < 6; what++) {
                looks.add(asked(m, "field", s, what));
            }
            for (int k = -1; k <= m.kinds.size(); k++) {
                looksAt(m, s, k, looks);
            }
        }
        return looks;
    }

    private static void looksAt(Model m, int s, int k, List<Call> looks) {
        looks.add(asked(m, "mender", s, k));
        for (int what = -1; what < 9; what++) {
            looks.add(asked(m, "about", s, k, what));
        }
        for (int what = -1; what < 5; what++) {
            looks.add(asked(m, "pipe", s, k, what));
        }
        int asks = m.about(s, k, 1);
        for (int i = -1; i <= asks; i++) {
            for (int what = -1; what < 4; what++) {
                looks.add(asked(m, "ask", s, k, i, what));
            }
        }
    }

    /** What came to be of a kind and what became of it are as many: bought and broken ones are all somewhere. */
    private static void weigh(Run run) {
        SpareShelves x = run.played();
        for (int k = 0; k < run.model.kinds.size(); k++) {
            int sum = 0;
            for (int what = 1; what < 8; what++) {
                sum += x.all(k, what);
            }
            if (sum != x.all(k, 0) + x.all(k, 8)) {
                wrong++;
                System.out.println("run " + run.number + ": of kind " + k + " " + sum + " are somewhere");
            }
        }
    }

    /** Mostly a number that fits, now and then one beyond either edge. */
    private static int near(Random r, int least, int greatest) {
        return r.nextInt(40) == 0 ? (r.nextBoolean() ? least - 1 : greatest + 1) : least + r.nextInt(greatest - least + 1);
    }

    private static void change(Run run, Random r) {
        Model m = run.model;
        int s = near(r, 0, m.shelves.size() - 1);
        int k = near(r, 0, Math.max(0, m.kinds.size() - 1));
        int pick = r.nextInt(100);
        if (pick < 4) {
            run.call("kind", near(r, 1, 1000), near(r, 1, 50), near(r, -1, Math.max(-1, m.kinds.size() - 1)));
        } else if (pick < 7) {
            run.call("shelf", s, near(r, 1, 20));
        } else if (pick < 16) {
            run.call("mend", s, k, r.nextInt(3) == 0 ? 0 : near(r, 0, 30));
        } else if (pick < 16 + run.number % 20) {
            run.call("stock", s, k, near(r, 1, 9));
        } else if (pick < 40) {
            run.call("rate", s, k, near(r, 0, r.nextInt(4) == 0 ? 10000 : 300));
        } else if (pick < 75) {
            run.call("fails", s, k, near(r, 0, 2));
        } else if (pick < 92) {
            run.call("days", near(r, 1, r.nextInt(9) == 0 ? 60 : 4));
        } else {
            run.call("choose");
        }
    }

    /** Any mixture of calls, those that are refused too. */
    private static void mixedRun(int number) {
        Random r = new Random(number);
        Run run = new Run(number);
        for (int part = 0; part < 3 && wrong < MOST_WRONG; part++) {
            for (int call = 0; call < 40 + number % 80; call++) {
                change(run, r);
            }
            run.look();
            weigh(run);
        }
    }

    /** Short ways and mends, so that much is due on one day and the order in which it is done shows. */
    private static void denseRun(int number) {
        Random r = new Random(number);
        Run run = new Run(number);
        int kinds = 2 + r.nextInt(3);
        for (int k = 0; k < kinds; k++) {
            run.call("kind", 1, 1 + r.nextInt(2), k - 1);
        }
        for (int s = 1; s < 8; s++) {
            run.call("shelf", r.nextInt(s), 1 + r.nextInt(2));
        }
        for (int i = 0; i < 12; i++) {
            run.call("mend", r.nextInt(8), r.nextInt(kinds), 1 + r.nextInt(2));
        }
        for (int day = 0; day < 30; day++) {
            for (int i = r.nextInt(5); i > 0; i--) {
                run.call("fails", r.nextInt(8), r.nextInt(kinds), r.nextInt(7) % 3);
            }
            if (r.nextInt(3) == 0) {
                run.call("stock", r.nextInt(8), r.nextInt(kinds), 1);
            }
            run.call("days", 1);
        }
        run.look();
    }

    /** One day on which a whole row of mends gets its cores: far more than a hundred asks and dues at once. */
    private static void flood() {
        Run run = new Run(0);
        run.call("kind", 1, 50, -1);
        run.call("kind", 1, 50, 0);
        for (int s = 1; s < 8; s++) {
            run.call("shelf", s - 1, 20);
        }
        run.call("mend", 7, 1, 30);
        for (int i = 0; i < 60; i++) {
            run.call("fails", 7, 1, 1);
        }
        for (int i = 0; i < 6; i++) {
            run.call("stock", 7, 0, 9);
        }
        for (int i = 0; i < 20; i++) {
            run.call("stock", 7, 1, 2);
            run.call("fails", 7, 1, 1);
        }
        run.look();
        for (int i = 0; i < 140; i++) {
            run.call("stock", i % 7, 0, 1);
        }
        run.look();
        for (int i = 0; i < 10; i++) {
            run.call("days", 40);
        }
        run.look();
    }

    public static void main(String[] args) {
        flood();
        for (int number = 1; number <= RUNS && wrong < MOST_WRONG; number++) {
            mixedRun(number);
            denseRun(RUNS + number);
        }
        System.out.println(wrong == 0 ? "both programs answer alike" : wrong + " answers are not as due");
        if (wrong != 0) {
            System.exit(1);
        }
    }
}
