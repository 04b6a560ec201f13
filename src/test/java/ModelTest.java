import java.util.ArrayList;
import java.util.List;
import java.util.Random;

/** Random runs of 512 calls, each answer against a second telling of the document that counts everything anew. */
public final class ModelTest {
    private static final int RUNS = 2000;
    private static final int CALLS = 512;
    private static final int[] FAR = {-1, Integer.MIN_VALUE, Integer.MAX_VALUE, -2, 200, 5000, 5001, 1001, 1 << 30};

    public static void main(String[] args) {
        Due due = new Due("ModelTest");
        for (int run = 0; run < RUNS && !due.anyWrong(); run++) {
            new Run(due, run).all();
        }
        due.end();
    }

    private static final class Run {
        private final Due due;
        private final int seed;
        private final Random random;
        private final VolumeHouse x = new VolumeHouse();
        private final Model model = new Model();
        // Some runs go through many days, some have few copies, some seldom ask for what isn't there.
        private final int longest;
        private final int oddity;
        private final int fewTitles;
        private final int mostSets;

        Run(Due due, int seed) {
            this.due = due;
            this.seed = seed;
            random = new Random(seed);
            longest = seed % 3 == 0 ? 100 : seed % 3 == 1 ? 8 : 2;
            oddity = seed % 2 == 0 ? 12 : 60;
            fewTitles = seed % 5 == 0 ? 12 : 3;
            mostSets = seed % 4 == 0 ? 20 : 2;
        }

        void all() {
            int early = goNearTheLastDay();
            for (int i = early; i < CALLS && !due.anyWrong(); i++) {
                one();
            }
        }

        /** Every seventh run begins there, since few would come to it; answers how many calls that took. */
        private int goNearTheLastDay() {
            int calls = seed % 7 == 0 ? 49 : 0;
            for (int i = 0; i < calls; i++) {
                tell("go(100)", x.go(100), model.go(100));
            }
            return calls;
        }

        private int pick(int below) {
            if (random.nextInt(oddity) == 0) {
                return random.nextBoolean() ? below : FAR[random.nextInt(FAR.length)];
            }
            return random.nextInt(Math.max(1, below));
        }

        private int day() {
            return random.nextInt(4) == 0 ? pick(5001) : pick(Math.min(5001, model.now + 40));
        }

        private void tell(String call, int got, int want) {
            due.is("run " + seed + ", " + call, got, want);
        }

        private void one() {
            int kind = random.nextInt(40);
            if (kind < 14) {
                ask(kind);
            } else if (kind < 26) {
                move(kind);
            } else {
                make(kind);
            }
        }

        private void ask(int kind) {
            if (kind < 4) {
                int c = pick(model.copies.size());
                int what = pick(8);
                tell("copy(" + c + ", " + what + ")", x.copy(c, what), model.copy(c, what));
            } else if (kind < 6) {
                int r = pick(model.readers.size());
                int what = pick(6);
                tell("told(" + r + ", " + what + ")", x.told(r, what), model.told(r, what));
            } else if (kind < 9) {
                int w = pick(model.wishes.size());
                int what = pick(4);
                tell("wished(" + w + ", " + what + ")", x.wished(w, what), model.wished(w, what));
            } else if (kind == 9) {
                int t = pick(model.titles.size());
                int v = pick(4);
                tell("waiting(" + t + ", " + v + ")", x.waiting(t, v), model.waiting(t, v));
            } else if (kind == 10) {
                int t = pick(model.titles.size());
                tell("sets(" + t + ")", x.sets(t), model.sets(t));
            } else if (kind == 11) {
                int what = pick(9);
                tell("count(" + what + ")", x.count(what), model.count(what));
            } else {
                plan(kind);
            }
        }

        private void plan(int kind) {
            int v = random.nextBoolean() ? pick(40) : pick(1001);
            int c = random.nextBoolean() ? pick(100) : pick(1001);
            if (kind == 12) {
                tell("best(" + v + ", " + c + ")", x.best(v, c), model.best(v, c));
            } else if (random.nextBoolean()) {
                tell("gain(" + v + ", " + c + ")", x.gain(v, c), model.gain(v, c));
            } else {
                int i = pick(model.best(v, c) + 1);
                tell("kept(" + v + ", " + c + ", " + i + ")", x.kept(v, c, i), model.kept(v, c, i));
            }
        }

        private void move(int kind) {
            if (kind < 18) {
                int n = pick(longest + 1);
                tell("go(" + n + ")", x.go(n), model.go(n));
            } else if (kind < 23) {
                int c = out();
                tell("back(" + c + ")", x.back(c), model.back(c));
            } else if (kind == 23) {
                int c = random.nextBoolean() ? out() : pick(model.copies.size());
                tell("lose(" + c + ")", x.lose(c), model.lose(c));
            } else if (kind == 24) {
                int r = pick(model.readers.size());
                int n = pick(12);
                tell("pay(" + r + ", " + n + ")", x.pay(r, n), model.pay(r, n));
            } else {
                int c = pick(model.copies.size());
                int price = pick(1001);
                tell("sell(" + c + ", " + price + ")", x.sell(c, price) ? 1 : 0, model.sell(c, price));
            }
        }

        /** A copy that some reader has, or any. */
        private int out() {
            List<Integer> found = new ArrayList<>();
            for (int c = 0; c < model.copies.size(); c++) {
                int where = model.copies.get(c).where;
                if (where >= 1 && where <= 3) {
                    found.add(c);
                }
            }
            return found.isEmpty() ? pick(model.copies.size()) : found.get(random.nextInt(found.size()));
        }

        private void make(int kind) {
            int t = pick(model.titles.size());
            int r = pick(model.readers.size());
            if (kind < 28) {
                int n = model.titles.size() < fewTitles ? pick(5) : 0;
                tell("title(" + n + ")", x.title(n), model.title(n));
            } else if (kind == 28) {
                int day = day();
                int n = pick(10);
                int price = pick(1001);
                int beyond = pick(1001);
                tell("bargain", x.bargain(t, day, n, price, beyond) ? 1 : 0, model.bargain(t, day, n, price, beyond));
            } else if (kind < 31) {
                int m = pick(mostSets + 1);
                tell("buy(" + t + ", " + m + ")", x.buy(t, m), model.buy(t, m));
            } else if (kind < 33) {
                int rank = pick(3);
                int box = random.nextBoolean() ? 0 : pick(10);
                int last = day();
                tell("reader(" + rank + ", " + box + ", " + last + ")", x.reader(rank, box, last), model.reader(rank, box, last));
            } else if (kind == 33) {
                int last = day();
                tell("renew(" + r + ", " + last + ")", x.renew(r, last) ? 1 : 0, model.renew(r, last));
            } else if (kind < 38) {
                tell("wish(" + r + ", " + t + ")", x.wish(r, t), model.wish(r, t));
            } else if (kind == 38) {
                int w = pick(model.wishes.size());
                tell("unwish(" + w + ")", x.unwish(w) ? 1 : 0, model.unwish(w));
            } else {
                int week = pick(21);
                int wanted = week == 20 ? pick(1) : pick(51);
                int sale = random.nextBoolean() ? pick(100) : pick(1001);
                tell("demand", x.demand(week, wanted, sale) ? 1 : 0, model.demand(week, wanted, sale));
            }
        }
    }

    private static final class Copy {
        int where, title, volume, cost, lent, left;
        int since = -1;
        Reader reader;
        Wish wish;
    }

    private static final class Reader {
        int number, rank, boxDays, last, owed;
    }

    private static final class Wish {
        Reader reader;
        int title, state, had, since;
    }

    private record Bargain(int title, int day, int n, int price, int beyond) { }

    private static final class Model {
        final List<Integer> titles = new ArrayList<>();
        final List<Copy> copies = new ArrayList<>();
        final List<Reader> readers = new ArrayList<>();
        final List<Wish> wishes = new ArrayList<>();
        final List<Bargain> bargains = new ArrayList<>();
        final int[] wanted = new int[21];
        final int[] sale = new int[21];
        int now, spent, earned, paid;

        static boolean in(int x, int a, int b) {
            return a <= x && x <= b;
        }

        static boolean of(List<?> list, int i) {
            return in(i, 0, list.size() - 1);
        }

        int title(int volumes) {
            if (!in(volumes, 1, 4) || titles.size() == 12) {
                return -1;
            }
            titles.add(volumes);
            return titles.size() - 1;
        }

        int bargain(int t, int day, int n, int price, int beyond) {
            boolean right = of(titles, t) && in(day, 0, 5000) && in(n, 0, 200) && in(price, 0, 1000) && in(beyond, 0, 1000);
            if (!right || bargains.size() == 40) {
                return 0;
            }
            bargains.add(new Bargain(t, day, n, price, beyond));
            return 1;
        }

        int buy(int t, int m) {
            if (!of(titles, t) || !in(m, 1, 20) || copies.size() + m * titles.get(t) > 200) {
                return -1;
            }
            Bargain force = new Bargain(t, -1, 200, 10, 10);
            for (int day = 0; day <= now; day++) {
                for (Bargain b : bargains) {
                    force = b.title == t && b.day == day ? b : force;
                }
            }
            int place = 0;
            int sum = 0;
            for (int volume = 0; volume < titles.get(t); volume++) {
                for (int i = 0; i < m; i++) {
                    Copy copy = new Copy();
                    copy.title = t;
                    copy.volume = volume;
                    copy.cost = place < force.n ? force.price : force.beyond;
                    copies.add(copy);
                    sum += copy.cost;
                    place++;
                }
            }
            spent += sum;
            return sum;
        }

        int sell(int c, int price) {
            if (!of(copies, c) || copies.get(c).where != 0 || !in(price, 0, 1000)) {
                return 0;
            }
            copies.get(c).where = 4;
            earned += price;
            return 1;
        }

        int reader(int rank, int boxDays, int last) {
            if (!in(rank, 0, 2) || !in(boxDays, 0, 9) || !in(last, 0, 5000) || readers.size() == 20) {
                return -1;
            }
            Reader r = new Reader();
            r.number = readers.size();
            r.rank = rank;
            r.boxDays = boxDays;
            r.last = last;
            readers.add(r);
            return r.number;
        }

        int renew(int r, int last) {
            if (!of(readers, r) || !in(last, 0, 5000)) {
                return 0;
            }
            readers.get(r).last = last;
            return 1;
        }

        int wish(int r, int t) {
            if (!of(readers, r) || !of(titles, t) || wishes.size() == 100) {
                return -1;
            }
            for (Wish w : wishes) {
                if (w.reader == readers.get(r) && w.title == t && w.state == 0) {
                    return -1;
                }
            }
            Wish w = new Wish();
            w.reader = readers.get(r);
            w.title = t;
            w.since = now;
            wishes.add(w);
            return wishes.size() - 1;
        }

        int unwish(int w) {
            if (!of(wishes, w) || wishes.get(w).state != 0) {
                return 0;
            }
            wishes.get(w).state = 2;
            return 1;
        }

        int go(int n) {
            if (!in(n, 0, 100)) {
                return -1;
            }
            for (int i = 0; i < n; i++) {
                if (now == 5000) {
                    return now;
                }
                boxes();
                turns();
                now++;
            }
            return now;
        }

        void boxes() {
            for (Copy c : copies) {
                if (c.where != 2 && c.where != 3) {
                    continue;
                }
                c.left--;
                if (c.left == 0 && c.where == 2) {
                    c.where = 1;
                    c.since = now;
                } else if (c.left == 0) {
                    c.where = 0;
                    c.reader = null;
                }
            }
        }

        void turns() {
            while (true) {
                Wish first = null;
                for (int rank = 2; rank >= 0 && first == null; rank--) {
                    for (Wish w : wishes) {
                        boolean can = w.reader.rank == rank && waits(w) && w.reader.last >= now
                            && has(w.reader, 1, 3) < new int[] {1, 3, 6}[rank] && shelf(w) != null;
                        if (can && (first == null || w.since < first.since)) {
                            first = w;
                        }
                    }
                }
                if (first == null) {
                    return;
                }
                Copy c = shelf(first);
                c.reader = first.reader;
                c.wish = first;
                c.lent++;
                c.left = first.reader.boxDays;
                c.where = c.left > 0 ? 2 : 1;
                c.since = c.left > 0 ? -1 : now;
            }
        }

        Copy shelf(Wish w) {
            for (Copy c : copies) {
                if (c.where == 0 && c.title == w.title && c.volume == w.had) {
                    return c;
                }
            }
            return null;
        }

        int has(Reader r, int from, int to) {
            int n = 0;
            for (Copy c : copies) {
                n += c.reader == r && in(c.where, from, to) ? 1 : 0;
            }
            return n;
        }

        int copyFor(Wish w) {
            for (int c = 0; c < copies.size(); c++) {
                if (copies.get(c).wish == w) {
                    return c;
                }
            }
            return -1;
        }

        boolean waits(Wish w) {
            return w.state == 0 && copyFor(w) < 0;
        }

        int late(Copy c) {
            int days = now - c.since - new int[] {7, 14, 28}[c.reader.rank];
            return days > 0 ? days * (3 - c.reader.rank) : 0;
        }

        void had(Copy c) {
            Wish w = c.wish;
            c.wish = null;
            w.had++;
            w.since = now;
            if (w.state == 0 && w.had == titles.get(w.title)) {
                w.state = 1;
            }
        }

        int back(int number) {
            if (!of(copies, number) || copies.get(number).where != 1) {
                return -1;
            }
            Copy c = copies.get(number);
            int cost = late(c);
            c.reader.owed += cost;
            had(c);
            c.since = -1;
            c.left = c.reader.boxDays;
            c.where = c.left > 0 ? 3 : 0;
            c.reader = c.left > 0 ? c.reader : null;
            return cost;
        }

        int lose(int number) {
            if (!of(copies, number) || copies.get(number).where >= 4) {
                return -1;
            }
            Copy c = copies.get(number);
            int cost = 0;
            if (c.where != 0) {
                cost = c.cost + (c.where == 1 ? late(c) : 0);
                c.reader.owed += cost;
                if (c.where != 3) {
                    had(c);
                }
            }
            c.where = 5;
            c.reader = null;
            c.since = -1;
            c.left = 0;
            return cost;
        }

        int pay(int r, int n) {
            if (!of(readers, r) || n < 1 || n > readers.get(r).owed) {
                return -1;
            }
            paid += n;
            return readers.get(r).owed -= n;
        }

        int copy(int number, int what) {
            if (!of(copies, number) || !in(what, 0, 7)) {
                return -1;
            }
            Copy c = copies.get(number);
            int reader = c.reader == null ? -1 : c.reader.number;
            return new int[] {c.where, c.title, c.volume, c.cost, reader, c.since, c.left, c.lent}[what];
        }

        int told(int number, int what) {
            if (!of(readers, number) || !in(what, 0, 5)) {
                return -1;
            }
            Reader r = readers.get(number);
            int open = 0;
            for (Wish w : wishes) {
                open += w.reader == r && w.state == 0 ? 1 : 0;
            }
            return new int[] {r.rank, has(r, 1, 1), has(r, 2, 3), r.owed, open, r.last}[what];
        }

        int wished(int number, int what) {
            if (!of(wishes, number) || !in(what, 0, 3)) {
                return -1;
            }
            Wish w = wishes.get(number);
            return new int[] {w.state, w.had, copyFor(w), waits(w) ? w.since : -1}[what];
        }

        int waiting(int t, int volume) {
            if (!of(titles, t) || !in(volume, 0, titles.get(t) - 1)) {
                return -1;
            }
            int n = 0;
            for (Wish w : wishes) {
                n += waits(w) && w.title == t && w.had == volume ? 1 : 0;
            }
            return n;
        }

        int sets(int t) {
            if (!of(titles, t)) {
                return -1;
            }
            int[] there = new int[titles.get(t)];
            for (Copy c : copies) {
                if (c.title == t && c.where < 4) {
                    there[c.volume]++;
                }
            }
            int fewest = there[0];
            for (int n : there) {
                fewest = Math.min(fewest, n);
            }
            return fewest;
        }

        int demand(int week, int n, int price) {
            if (!in(week, 0, 20) || !in(n, 0, 50) || week == 20 && n != 0 || !in(price, 0, 1000)) {
                return 0;
            }
            wanted[week] = n;
            sale[week] = price;
            return 1;
        }

        int brings(int v, int i, int weeks) {
            int sum = sale[weeks];
            for (int week = 0; week < weeks; week++) {
                sum += wanted[week] > i ? v : 0;
            }
            return sum;
        }

        int weeks(int v, int i) {
            int found = 0;
            for (int weeks = 1; weeks <= 20; weeks++) {
                found = brings(v, i, weeks) > brings(v, i, found) ? weeks : found;
            }
            return found;
        }

        /** What the first n sets bring, by how many of them are there in each week. */
        int ofSets(int n, int[] weeks, int v, int c) {
            int sum = -n * c;
            for (int i = 0; i < n; i++) {
                sum += sale[weeks[i]];
            }
            for (int week = 0; week < 20; week++) {
                int there = 0;
                for (int i = 0; i < n; i++) {
                    there += weeks[i] > week ? 1 : 0;
                }
                sum += v * Math.min(there, wanted[week]);
            }
            return sum;
        }

        int[] allWeeks(int v) {
            int[] weeks = new int[50];
            for (int i = 0; i < 50; i++) {
                weeks[i] = weeks(v, i);
            }
            return weeks;
        }

        int best(int v, int c) {
            if (!in(v, 0, 1000) || !in(c, 0, 1000)) {
                return -1;
            }
            int[] weeks = allWeeks(v);
            int found = 0;
            int most = 0;
            for (int n = 1; n <= 50; n++) {
                int sum = ofSets(n, weeks, v, c);
                found = sum > most ? n : found;
                most = Math.max(most, sum);
            }
            return found;
        }

        int gain(int v, int c) {
            int n = best(v, c);
            return n < 0 ? -1 : ofSets(n, allWeeks(v), v, c);
        }

        int kept(int v, int c, int i) {
            return i >= 0 && i < best(v, c) ? weeks(v, i) : -1;
        }

        int count(int what) {
            int lost = 0;
            for (Copy c : copies) {
                lost += c.where == 5 ? 1 : 0;
            }
            int[] all = {now, titles.size(), copies.size(), readers.size(), wishes.size(), spent, earned, paid, lost};
            return in(what, 0, 8) ? all[what] : -1;
        }
    }
}
