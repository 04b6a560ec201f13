import java.util.Random;

/** Promises 19 to 22: demand, best, gain, kept. */
public final class PlanTest {
    private static final int WEEKS = 20;
    private static final Due DUE = new Due("PlanTest");

    public static void main(String[] args) {
        demands();
        refused();
        fewestSetsOfLikePlans();
        fewestWeeksOfLikeOnes();
        fiftySets();
        greatest();
        againstAllPlans();
        DUE.end();
    }

    private static void demands() {
        VolumeHouse x = new VolumeHouse();
        DUE.no("week -1", x.demand(-1, 0, 0));
        DUE.no("week 21", x.demand(21, 0, 0));
        DUE.no("wanted -1", x.demand(0, -1, 0));
        DUE.no("wanted 51", x.demand(0, 51, 0));
        DUE.no("sale -1", x.demand(0, 0, -1));
        DUE.no("sale 1001", x.demand(0, 0, 1001));
        DUE.no("wanted in week 20", x.demand(20, 1, 1000));
        DUE.no("wanted in week 20", x.demand(20, -1, 1000));
        DUE.no("wanted, but no sale", x.demand(0, 5, 1001));
        DUE.no("sale, but not wanted", x.demand(0, 51, 1000));
        DUE.is("nothing came of it", x.gain(1000, 0), 0);
        DUE.yes("week 0", x.demand(0, 50, 0));
        DUE.yes("week 19", x.demand(19, 0, 1000));
        DUE.yes("week 20", x.demand(20, 0, 1000));
        DUE.is("the sale of week 19", x.kept(1, 0, 0), 19);
        DUE.yes("week 19 again", x.demand(19, 0, 0));
        DUE.is("the sale of week 20", x.kept(1, 0, 0), 20);
    }

    private static void refused() {
        VolumeHouse x = new VolumeHouse();
        x.demand(0, 2, 9);
        int[][] wrong = {{-1, 0}, {1001, 0}, {0, -1}, {0, 1001}, {Integer.MIN_VALUE, 5}, {5, Integer.MAX_VALUE}};
        for (int[] w : wrong) {
            DUE.is("best", x.best(w[0], w[1]), -1);
            DUE.is("gain", x.gain(w[0], w[1]), -1);
            DUE.is("kept", x.kept(w[0], w[1], 0), -1);
        }
        DUE.is("best", x.best(10, 9), 2);
        DUE.is("gain", x.gain(10, 9), 2);
        DUE.is("kept 0", x.kept(10, 9, 0), 1);
        DUE.is("kept 1", x.kept(10, 9, 1), 1);
        DUE.is("kept 2", x.kept(10, 9, 2), -1);
        DUE.is("kept -1", x.kept(10, 9, -1), -1);
        DUE.is("kept far away", x.kept(10, 9, Integer.MAX_VALUE), -1);
        DUE.is("gain of none", x.gain(10, 1000), 0);
    }

    private static void fewestSetsOfLikePlans() {
        VolumeHouse x = new VolumeHouse();
        x.demand(0, 3, 0);
        DUE.is("a set that brings nothing isn't bought", x.best(10, 10), 0);
        DUE.is("it is for one coin less", x.best(10, 9), 3);
        x.demand(0, 3, 20);
        DUE.is("nor one that is sold for its cost", x.best(0, 20), 0);
    }

    private static void fewestWeeksOfLikeOnes() {
        VolumeHouse x = new VolumeHouse();
        x.demand(0, 1, 30);
        x.demand(1, 1, 20);
        x.demand(2, 1, 10);
        DUE.is("sold at once", x.kept(10, 0, 0), 0);
        x.demand(1, 1, 21);
        DUE.is("sold after a week", x.kept(10, 0, 0), 1);
        x.demand(2, 1, 11);
        DUE.is("not after two", x.kept(10, 0, 0), 1);
        DUE.is("gain", x.gain(10, 30), 1);
    }

    private static void fiftySets() {
        VolumeHouse x = new VolumeHouse();
        x.demand(0, 0, 5);
        DUE.is("fifty at most", x.best(0, 4), 50);
        DUE.is("gain of fifty", x.gain(0, 4), 50);
        DUE.is("kept 49", x.kept(0, 4, 49), 0);
        DUE.is("kept 50", x.kept(0, 4, 50), -1);
    }

    private static void greatest() {
        VolumeHouse x = new VolumeHouse();
        for (int week = 0; week < WEEKS; week++) {
            x.demand(week, 50, 1000);
        }
        x.demand(20, 0, 1000);
        DUE.is("best", x.best(1000, 0), 50);
        DUE.is("gain", x.gain(1000, 0), 50 * 21000);
        DUE.is("kept", x.kept(1000, 0, 49), 20);
    }

    /** At most three are wanted and a set never costs less than its sale, so no PLAN needs more than three. */
    private static void againstAllPlans() {
        Random random = new Random(20);
        for (int run = 0; run < 60 && !DUE.anyWrong(); run++) {
            VolumeHouse x = new VolumeHouse();
            int[] wanted = new int[WEEKS + 1];
            int[] sale = new int[WEEKS + 1];
            for (int week = 0; week <= WEEKS; week++) {
                wanted[week] = week == WEEKS ? 0 : random.nextInt(4);
                sale[week] = random.nextInt(60);
                x.demand(week, wanted[week], sale[week]);
            }
            int v = random.nextInt(12);
            int c = 59 + random.nextInt(60);
            int[] most = {0, mostOf(1, wanted, sale, v, c), mostOf(2, wanted, sale, v, c), mostOf(3, wanted, sale, v, c)};
            int n = 0;
            for (int m = 1; m <= 3; m++) {
                n = most[m] > most[n] ? m : n;
            }
            DUE.is("all plans: best", x.best(v, c), n);
            DUE.is("all plans: gain", x.gain(v, c), most[n]);
            int[] weeks = new int[n];
            for (int i = 0; i < n; i++) {
                weeks[i] = x.kept(v, c, i);
            }
            DUE.is("all plans: the weeks kept bring it", sum(weeks, wanted, sale, v, c), most[n]);
        }
    }

    private static int mostOf(int n, int[] wanted, int[] sale, int v, int c) {
        int most = Integer.MIN_VALUE;
        int[] weeks = new int[n];
        int plans = (int) Math.pow(WEEKS + 1, n);
        for (int plan = 0; plan < plans; plan++) {
            int rest = plan;
            for (int i = 0; i < n; i++) {
                weeks[i] = rest % (WEEKS + 1);
                rest /= WEEKS + 1;
            }
            most = Math.max(most, sum(weeks, wanted, sale, v, c));
        }
        return most;
    }

    private static int sum(int[] weeks, int[] wanted, int[] sale, int v, int c) {
        int sum = 0;
        for (int k : weeks) {
            sum += sale[k] - c;
        }
        for (int week = 0; week < WEEKS; week++) {
            int there = 0;
            for (int k : weeks) {
                there += k > week ? 1 : 0;
            }
            sum += v * Math.min(there, wanted[week]);
        }
        return sum;
    }
}
