/** A lending library by subscription; ../shared/DOC.md says what each call promises. */
public final class VolumeHouse {
    /** There is none. */
    public static final int NONE = -1;

    private static final int LAST_DAY = 5000;
    private static final int MOST_DAYS_AT_ONCE = 100;
    private static final int MOST_TITLES = 12;
    private static final int MOST_VOLUMES = 4;
    private static final int MOST_BARGAINS = 40;
    private static final int MOST_AT_FIRST_PRICE = 200;
    private static final int MOST_PRICE = 1000;
    private static final int PRICE_WITHOUT_BARGAIN = 10;
    private static final int MOST_COPIES = 200;
    private static final int MOST_SETS_AT_ONCE = 20;
    private static final int MOST_READERS = 20;
    private static final int MOST_BOX_DAYS = 9;
    private static final int MOST_WISHES = 100;
    private static final int WEEKS = 20;
    private static final int MOST_WANTED = 50;
    private static final int MOST_SETS_IN_PLAN = 50;
    private static final int MOST_PLAN_COINS = 1000;

    private static final int SHELF = 0;
    private static final int WITH_READER = 1;
    private static final int BOX_TO_READER = 2;
    private static final int BOX_BACK = 3;
    private static final int SOLD = 4;
    private static final int LOST = 5;

    private static final int OPEN = 0;
    private static final int ALL_HAD = 1;
    private static final int TAKEN_BACK = 2;

    private static final int CLASSES = 3;
    private static final int[] MOST_HELD = {1, 3, 6};
    private static final int[] TERM = {7, 14, 28};
    private static final int[] LATE_COINS = {3, 2, 1};

    private final Titles titles;
    private final Bargains bargains;
    private final Copies copies;
    private final Readers readers;
    private final Wishes wishes;
    private final Demands demands;
    private int now;
    private int spent;
    private int earned;
    private int paid;

    public VolumeHouse() {
        titles = new Titles();
        bargains = new Bargains();
        copies = new Copies();
        readers = new Readers();
        wishes = new Wishes();
        demands = new Demands();
        now = 0;
        spent = 0;
        earned = 0;
        paid = 0;
    }

    public int title(int volumes) {
        if (!within(volumes, 1, MOST_VOLUMES) || titles.came >= MOST_TITLES) {
            return NONE;
        }
        return titles.add(volumes);
    }

    public boolean bargain(int title, int day, int n, int price, int beyond) {
        if (!titles.has(title) || !within(day, 0, LAST_DAY) || !within(n, 0, MOST_AT_FIRST_PRICE)) {
            return false;
        }
        if (!within(price, 0, MOST_PRICE) || !within(beyond, 0, MOST_PRICE)) {
            return false;
        }
        if (bargains.came >= MOST_BARGAINS) {
            return false;
        }
        bargains.add(title, day, n, price, beyond);
        return true;
    }

    public int buy(int title, int m) {
        if (!titles.has(title) || !within(m, 1, MOST_SETS_AT_ONCE)) {
            return NONE;
        }
        int bought = m * titles.volumesOf(title);
        if (copies.came + bought > MOST_COPIES) {
            return NONE;
        }
        int inForce = bargains.inForce(title, now);
        int cost = 0;
        for (int place = 0; place < bought; place++) {
            int price = bargains.priceAt(inForce, place);
            copies.add(title, place / m, price);
            cost += price;
        }
        spent += cost;
        return cost;
    }

    public boolean sell(int copy, int price) {
        if (!copies.isAt(copy, SHELF) || !within(price, 0, MOST_PRICE)) {
            return false;
        }
        copies.leaveFor(copy, SOLD);
        earned += price;
        return true;
    }

    public int reader(int rank, int boxDays, int last) {
        if (!within(rank, 0, CLASSES - 1) || !within(boxDays, 0, MOST_BOX_DAYS)) {
            return NONE;
        }
        if (!within(last, 0, LAST_DAY) || readers.came >= MOST_READERS) {
            return NONE;
        }
        return readers.add(rank, boxDays, last);
    }

    public boolean renew(int reader, int last) {
        if (!readers.has(reader) || !within(last, 0, LAST_DAY)) {
            return false;
        }
        readers.last[reader] = last;
        return true;
    }

    public int wish(int reader, int title) {
        if (!readers.has(reader) || !titles.has(title) || wishes.came >= MOST_WISHES) {
            return NONE;
        }
        if (wishes.hasOpen(reader, title)) {
            return NONE;
        }
        return wishes.add(reader, title, now);
    }

    public boolean unwish(int wish) {
        if (!wishes.isOpen(wish)) {
            return false;
        }
        wishes.state[wish] = TAKEN_BACK;
        return true;
    }

    public int go(int n) {
        if (!within(n, 0, MOST_DAYS_AT_ONCE)) {
            return NONE;
        }
        // The last DAY never ends: beyond it no BOX comes and nobody has a turn.
        int ending = Math.min(n, LAST_DAY - now);
        for (int day = 0; day < ending; day++) {
            boolean cameBack = moveBoxes();
            // Days alone only end subscriptions: after the first TURNS of a call
            // nobody can get a COPY till another one is back on the SHELF.
            if (day == 0 || cameBack) {
                takeTurns();
            }
            now++;
        }
        return now;
    }

    public int back(int copy) {
        if (!copies.isAt(copy, WITH_READER)) {
            return NONE;
        }
        int reader = copies.reader[copy];
        if (!readers.has(reader)) {
            return NONE;
        }
        int cost = lateCost(copy, reader);
        readers.owed[reader] += cost;
        countAsHad(copies.wish[copy]);
        readers.inHand[reader]--;
        if (readers.boxDays[reader] == 0) {
            copies.shelve(copy);
        } else {
            copies.sendBack(copy, readers.boxDays[reader]);
            readers.inBoxes[reader]++;
        }
        return cost;
    }

    public int lose(int copy) {
        if (!copies.has(copy) || copies.isAt(copy, SOLD) || copies.isAt(copy, LOST)) {
            return NONE;
        }
        int cost = 0;
        int reader = copies.reader[copy];
        if (readers.has(reader)) {
            cost = copies.cost[copy] + lateCost(copy, reader);
            readers.owed[reader] += cost;
            countAsHad(copies.wish[copy]);
            takeFrom(reader, copy);
        }
        copies.leaveFor(copy, LOST);
        return cost;
    }

    public int pay(int reader, int n) {
        if (!readers.has(reader) || !within(n, 1, readers.owed[reader])) {
            return NONE;
        }
        readers.owed[reader] -= n;
        paid += n;
        return readers.owed[reader];
    }

    public int copy(int c, int what) {
        if (!copies.has(c)) {
            return NONE;
        }
        switch (what) {
            case 0: return copies.where[c];
            case 1: return copies.title[c];
            case 2: return copies.volume[c];
            case 3: return copies.cost[c];
            case 4: return copies.reader[c];
            case 5: return copies.since[c];
            case 6: return copies.daysToGo[c];
            case 7: return copies.timesLent[c];
            default: return NONE;
        }
    }

    public int told(int reader, int what) {
        if (!readers.has(reader)) {
            return NONE;
        }
        switch (what) {
            case 0: return readers.rank[reader];
            case 1: return readers.inHand[reader];
            case 2: return readers.inBoxes[reader];
            case 3: return readers.owed[reader];
            case 4: return wishes.openOf(reader);
            case 5: return readers.last[reader];
            default: return NONE;
        }
    }

    public int wished(int wish, int what) {
        if (!wishes.has(wish)) {
            return NONE;
        }
        switch (what) {
            case 0: return wishes.state[wish];
            case 1: return wishes.had[wish];
            case 2: return wishes.held[wish];
            case 3: return wishes.waits(wish) ? wishes.since[wish] : NONE;
            default: return NONE;
        }
    }

    public int waiting(int title, int volume) {
        if (!titles.hasVolume(title, volume)) {
            return NONE;
        }
        return wishes.waitingFor(title, volume);
    }

    public int sets(int title) {
        if (!titles.has(title)) {
            return NONE;
        }
        int fewest = MOST_COPIES;
        int volumes = titles.volumesOf(title);
        for (int volume = 0; volume < volumes; volume++) {
            fewest = Math.min(fewest, copies.inHouse(title, volume));
        }
        return fewest;
    }

    public boolean demand(int week, int wanted, int sale) {
        int mostWanted = week == WEEKS ? 0 : MOST_WANTED;
        if (!within(week, 0, WEEKS) || !within(wanted, 0, mostWanted) || !within(sale, 0, MOST_PRICE)) {
            return false;
        }
        demands.wanted[week] = wanted;
        demands.sale[week] = sale;
        return true;
    }

    public int best(int v, int c) {
        if (!canPlan(v, c)) {
            return NONE;
        }
        return demands.setsToBuy(v, c);
    }

    public int gain(int v, int c) {
        if (!canPlan(v, c)) {
            return NONE;
        }
        int bought = demands.setsToBuy(v, c);
        int sum = 0;
        for (int i = 0; i < bought; i++) {
            sum += demands.mostOf(v, i) - c;
        }
        return sum;
    }

    public int kept(int v, int c, int i) {
        if (!canPlan(v, c) || !within(i, 0, demands.setsToBuy(v, c) - 1)) {
            return NONE;
        }
        return demands.weeksOf(v, i);
    }

    public int count(int what) {
        switch (what) {
            case 0: return now;
            case 1: return titles.came;
            case 2: return copies.came;
            case 3: return readers.came;
            case 4: return wishes.came;
            case 5: return spent;
            case 6: return earned;
            case 7: return paid;
            case 8: return copies.lost;
            default: return NONE;
        }
    }

    private static boolean within(int x, int least, int most) {
        return x >= least && x <= most;
    }

    private static boolean canPlan(int v, int c) {
        return within(v, 0, MOST_PLAN_COINS) && within(c, 0, MOST_PLAN_COINS);
    }

    /** True if a COPY came back to the SHELF. */
    private boolean moveBoxes() {
        boolean cameBack = false;
        if (copies.inBoxes == 0) {
            return cameBack;
        }
        for (int c = 0; c < copies.came; c++) {
            if (copies.comesToday(c)) {
                cameBack = cameBack || copies.where[c] == BOX_BACK;
                unpack(c);
            }
        }
        return cameBack;
    }

    private void unpack(int copy) {
        int reader = copies.reader[copy];
        if (!readers.has(reader)) {
            return;
        }
        readers.inBoxes[reader]--;
        if (copies.where[copy] == BOX_BACK) {
            copies.shelve(copy);
        } else {
            copies.handOver(copy, now);
            readers.inHand[reader]++;
        }
    }

    private void takeTurns() {
        // Each turn takes a COPY from the SHELF, so there are no more of them than COPIES.
        for (int turn = 0; turn < MOST_COPIES; turn++) {
            int wish = nextInTurn();
            if (wish == NONE) {
                return;
            }
            lendFor(wish);
        }
    }

    private int nextInTurn() {
        int first = NONE;
        for (int w = 0; w < wishes.came; w++) {
            if (canGet(w) && (first == NONE || goesAhead(w, first))) {
                first = w;
            }
        }
        return first;
    }

    private boolean canGet(int wish) {
        return wishes.waits(wish)
            && readers.mayTake(wishes.reader[wish], now)
            && copies.onShelf(wishes.title[wish], wishes.had[wish]) > 0;
    }

    /** Of two WISHES, the one of the greater number never goes ahead of a like one. */
    private boolean goesAhead(int wish, int lesser) {
        int rank = readers.rankOf(wishes.reader[wish]);
        int lesserRank = readers.rankOf(wishes.reader[lesser]);
        if (rank != lesserRank) {
            return rank > lesserRank;
        }
        return wishes.since[wish] < wishes.since[lesser];
    }

    private void lendFor(int wish) {
        int reader = wishes.reader[wish];
        int copy = copies.leastOnShelf(wishes.title[wish], wishes.had[wish]);
        if (copy == NONE || !readers.has(reader)) {
            return;
        }
        wishes.held[wish] = copy;
        copies.lend(copy, reader, wish);
        if (readers.boxDays[reader] == 0) {
            copies.handOver(copy, now);
            readers.inHand[reader]++;
        } else {
            copies.sendOut(copy, readers.boxDays[reader]);
            readers.inBoxes[reader]++;
        }
    }

    /** A COPY in a BOX costs none: it isn't with the READER yet, or its lateness was told when it was GIVEN BACK. */
    private int lateCost(int copy, int reader) {
        if (!copies.isAt(copy, WITH_READER)) {
            return 0;
        }
        return readers.lateCost(reader, now - copies.since[copy]);
    }

    private void takeFrom(int reader, int copy) {
        if (copies.isAt(copy, WITH_READER)) {
            readers.inHand[reader]--;
        } else {
            readers.inBoxes[reader]--;
        }
    }

    private void countAsHad(int wish) {
        if (wishes.has(wish)) {
            wishes.countAsHad(wish, titles.volumesOf(wishes.title[wish]), now);
        }
    }

    private static final class Titles {
        private final int[] volumes = new int[MOST_TITLES];
        private int came = 0;

        private boolean has(int t) {
            return t >= 0 && t < came;
        }

        private boolean hasVolume(int t, int volume) {
            return volume >= 0 && volume < volumesOf(t);
        }

        private int volumesOf(int t) {
            return has(t) ? volumes[t] : 0;
        }

        private int add(int n) {
            volumes[came] = n;
            came++;
            return came - 1;
        }
    }

    private static final class Bargains {
        private final int[] title = new int[MOST_BARGAINS];
        private final int[] day = new int[MOST_BARGAINS];
        private final int[] atFirstPrice = new int[MOST_BARGAINS];
        private final int[] price = new int[MOST_BARGAINS];
        private final int[] priceBeyond = new int[MOST_BARGAINS];
        private int came = 0;

        private void add(int ofTitle, int fromDay, int n, int first, int beyond) {
            title[came] = ofTitle;
            day[came] = fromDay;
            atFirstPrice[came] = n;
            price[came] = first;
            priceBeyond[came] = beyond;
            came++;
        }

        private int inForce(int ofTitle, int today) {
            int found = NONE;
            for (int b = 0; b < came; b++) {
                if (title[b] == ofTitle && day[b] <= today && (found == NONE || day[b] >= day[found])) {
                    found = b;
                }
            }
            return found;
        }

        private int priceAt(int b, int place) {
            if (b < 0 || b >= came) {
                return PRICE_WITHOUT_BARGAIN;
            }
            return place < atFirstPrice[b] ? price[b] : priceBeyond[b];
        }
    }

    private static final class Copies {
        private final int[] where = new int[MOST_COPIES];
        private final int[] title = new int[MOST_COPIES];
        private final int[] volume = new int[MOST_COPIES];
        private final int[] cost = new int[MOST_COPIES];
        private final int[] reader = new int[MOST_COPIES];
        private final int[] wish = new int[MOST_COPIES];
        private final int[] since = new int[MOST_COPIES];
        private final int[] daysToGo = new int[MOST_COPIES];
        private final int[] timesLent = new int[MOST_COPIES];
        // How many COPIES of each VOLUME are on the SHELF: TURNS ask this of every WISH.
        private final int[] shelved = new int[MOST_TITLES * MOST_VOLUMES];
        private int came = 0;
        private int inBoxes = 0;
        private int lost = 0;

        private boolean has(int c) {
            return c >= 0 && c < came;
        }

        private boolean isAt(int c, int place) {
            return has(c) && where[c] == place;
        }

        private void add(int ofTitle, int ofVolume, int price) {
            int c = came;
            came++;
            title[c] = ofTitle;
            volume[c] = ofVolume;
            cost[c] = price;
            where[c] = NONE;
            timesLent[c] = 0;
            shelve(c);
        }

        private int slot(int ofTitle, int ofVolume) {
            return ofTitle * MOST_VOLUMES + ofVolume;
        }

        private int onShelf(int ofTitle, int ofVolume) {
            int slot = slot(ofTitle, ofVolume);
            return slot >= 0 && slot < shelved.length ? shelved[slot] : 0;
        }

        private int leastOnShelf(int ofTitle, int ofVolume) {
            for (int c = 0; c < came; c++) {
                if (where[c] == SHELF && title[c] == ofTitle && volume[c] == ofVolume) {
                    return c;
                }
            }
            return NONE;
        }

        private int inHouse(int ofTitle, int ofVolume) {
            int n = 0;
            for (int c = 0; c < came; c++) {
                if (title[c] == ofTitle && volume[c] == ofVolume && where[c] != SOLD && where[c] != LOST) {
                    n++;
                }
            }
            return n;
        }

        private void shelve(int c) {
            moveTo(c, SHELF);
            belongToNobody(c);
        }

        private void leaveFor(int c, int place) {
            moveTo(c, place);
            belongToNobody(c);
        }

        private void lend(int c, int toReader, int forWish) {
            reader[c] = toReader;
            wish[c] = forWish;
            timesLent[c]++;
        }

        private void handOver(int c, int today) {
            moveTo(c, WITH_READER);
            since[c] = today;
            daysToGo[c] = 0;
        }

        private void sendOut(int c, int days) {
            moveTo(c, BOX_TO_READER);
            daysToGo[c] = days;
        }

        private void sendBack(int c, int days) {
            moveTo(c, BOX_BACK);
            wish[c] = NONE;
            since[c] = NONE;
            daysToGo[c] = days;
        }

        /** A BOX has a DAY less to go; true if that was its last. */
        private boolean comesToday(int c) {
            if (!inBox(c)) {
                return false;
            }
            daysToGo[c]--;
            return daysToGo[c] <= 0;
        }

        private boolean inBox(int c) {
            return where[c] == BOX_TO_READER || where[c] == BOX_BACK;
        }

        private void belongToNobody(int c) {
            reader[c] = NONE;
            wish[c] = NONE;
            since[c] = NONE;
            daysToGo[c] = 0;
        }

        private void moveTo(int c, int place) {
            tally(c, -1);
            where[c] = place;
            tally(c, 1);
        }

        private void tally(int c, int change) {
            int slot = slot(title[c], volume[c]);
            if (where[c] == SHELF && slot >= 0 && slot < shelved.length) {
                shelved[slot] += change;
            }
            if (inBox(c)) {
                inBoxes += change;
            }
            if (where[c] == LOST) {
                lost += change;
            }
        }
    }

    private static final class Readers {
        private final int[] rank = new int[MOST_READERS];
        private final int[] boxDays = new int[MOST_READERS];
        private final int[] last = new int[MOST_READERS];
        private final int[] owed = new int[MOST_READERS];
        private final int[] inHand = new int[MOST_READERS];
        private final int[] inBoxes = new int[MOST_READERS];
        private int came = 0;

        private boolean has(int r) {
            return r >= 0 && r < came;
        }

        private int add(int ofRank, int days, int lastDay) {
            rank[came] = ofRank;
            boxDays[came] = days;
            last[came] = lastDay;
            came++;
            return came - 1;
        }

        private int rankOf(int r) {
            return has(r) ? rank[r] : 0;
        }

        private boolean mayTake(int r, int today) {
            return has(r) && last[r] >= today && inHand[r] + inBoxes[r] < MOST_HELD[rank[r]];
        }

        private int lateCost(int r, int days) {
            int c = rankOf(r);
            return Math.max(0, days - TERM[c]) * LATE_COINS[c];
        }
    }

    private static final class Wishes {
        private final int[] reader = new int[MOST_WISHES];
        private final int[] title = new int[MOST_WISHES];
        private final int[] state = new int[MOST_WISHES];
        private final int[] had = new int[MOST_WISHES];
        private final int[] held = new int[MOST_WISHES];
        private final int[] since = new int[MOST_WISHES];
        private int came = 0;

        private boolean has(int w) {
            return w >= 0 && w < came;
        }

        private boolean isOpen(int w) {
            return has(w) && state[w] == OPEN;
        }

        private boolean waits(int w) {
            return isOpen(w) && held[w] == NONE;
        }

        private int add(int ofReader, int forTitle, int today) {
            int w = came;
            came++;
            reader[w] = ofReader;
            title[w] = forTitle;
            state[w] = OPEN;
            had[w] = 0;
            held[w] = NONE;
            since[w] = today;
            return w;
        }

        private boolean hasOpen(int ofReader, int forTitle) {
            for (int w = 0; w < came; w++) {
                if (state[w] == OPEN && reader[w] == ofReader && title[w] == forTitle) {
                    return true;
                }
            }
            return false;
        }

        private int openOf(int ofReader) {
            int n = 0;
            for (int w = 0; w < came; w++) {
                if (state[w] == OPEN && reader[w] == ofReader) {
                    n++;
                }
            }
            return n;
        }

        private int waitingFor(int forTitle, int volume) {
            int n = 0;
            for (int w = 0; w < came; w++) {
                if (waits(w) && title[w] == forTitle && had[w] == volume) {
                    n++;
                }
            }
            return n;
        }

        /** A WISH that was taken back stays so, though its last VOLUME be had. */
        private void countAsHad(int w, int volumes, int today) {
            held[w] = NONE;
            had[w]++;
            since[w] = today;
            if (state[w] == OPEN && had[w] >= volumes) {
                state[w] = ALL_HAD;
            }
        }
    }

    /**
     * Each set can be looked at alone: when the i-th one is lent in the WEEKS in which more than i
     * would have one, the sums of all sets are those of the whole PLAN, and none brings more than
     * the one ahead of it.
     */
    private static final class Demands {
        private final int[] wanted = new int[WEEKS + 1];
        private final int[] sale = new int[WEEKS + 1];

        private int setsToBuy(int v, int c) {
            int n = 0;
            while (n < MOST_SETS_IN_PLAN && mostOf(v, n) > c) {
                n++;
            }
            return n;
        }

        private int mostOf(int v, int i) {
            int most = sale[0];
            int lent = 0;
            for (int weeks = 1; weeks <= WEEKS; weeks++) {
                lent += gainIn(weeks - 1, v, i);
                most = Math.max(most, lent + sale[weeks]);
            }
            return most;
        }

        private int weeksOf(int v, int i) {
            int most = mostOf(v, i);
            int lent = 0;
            for (int weeks = 0; weeks < WEEKS; weeks++) {
                if (lent + sale[weeks] == most) {
                    return weeks;
                }
                lent += gainIn(weeks, v, i);
            }
            return WEEKS;
        }

        private int gainIn(int week, int v, int i) {
            return wanted[week] > i ? v : 0;
        }
    }
}
