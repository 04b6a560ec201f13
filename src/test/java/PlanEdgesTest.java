/** The edges of promises 19 to 22: demand, best, gain, kept. */
public final class PlanEdgesTest {
    private static final int MIN = Integer.MIN_VALUE;
    private static final int MAX = Integer.MAX_VALUE;
    private static final int LAST_WEEK = 20;
    private static final Due DUE = new Due("PlanEdgesTest");
    private static final Refused REFUSED = new Refused(DUE);

    public static void main(String[] args) {
        demandIsOfAWeek();
        demandIsOf0To50();
        saleIsFor0To1000();
        inWeek20NoneIsWanted();
        demandToldAnewIsTheOneThatCounts();
        gainAndCostAre0To1000();
        noSetsAreBought();
        oneSetIsBought();
        fiftySetsAreBought();
        aSetMoreForEachThatIsWanted();
        setsThatBringNothingAreNotBought();
        keptIsOfASetThatIsBought();
        keptForNoWeek();
        keptForEachNumberOfWeeks();
        keptForTheFewestWeeksOfLikeOnes();
        saleCountsAtTheBeginOfAWeek();
        greatestSums();
        setsAreSoldOneByOne();
        DUE.end();
    }

    /** 'false if it can't be': WEEKS 0 .. 19, and 20 */
    private static void demandIsOfAWeek() {
        int[] wrong = {-1, 21, MIN, MAX};
        for (int week : wrong) {
            REFUSED.no("demand of week " + week, Houses::busy, x -> x.demand(week, 0, 1000));
            REFUSED.no("demand of week " + week, Houses::empty, x -> x.demand(week, 0, 1000));
            REFUSED.no("demand of week " + week, Houses::empty, x -> x.demand(week, 50, 1000));
        }
        for (int w = 0; w <= LAST_WEEK; w++) {
            VolumeHouse x = new VolumeHouse();
            DUE.yes("demand of week " + w, x.demand(w, w == LAST_WEEK ? 0 : 2, 7));
            DUE.is("kept till then", x.kept(0, 0, 0), w);
        }
    }

    /** 'how many would have a set (0 .. 50 each)' */
    private static void demandIsOf0To50() {
        int[] wrong = {-1, 51, MIN, MAX};
        for (int wanted : wrong) {
            for (int w = 0; w < LAST_WEEK; w += 19) {
                int week = w;
                REFUSED.no("demand " + wanted, Houses::busy, x -> x.demand(week, wanted, 1000));
            }
        }
        for (int week = 0; week < LAST_WEEK; week++) {
            VolumeHouse x = new VolumeHouse();
            DUE.yes("demand 0", x.demand(week, 0, 0));
            DUE.is("nothing is gained", x.best(1000, 0), 0);
            DUE.yes("demand 50", x.demand(week, 50, 0));
            DUE.is("fifty gain it", x.gain(1000, 999), 50);
        }
    }

    /** 'what a set can be SOLD for at the begin of each WEEK (0 .. 1000), and of WEEK 20' */
    private static void saleIsFor0To1000() {
        int[] wrong = {-1, 1001, MIN, MAX};
        for (int sale : wrong) {
            for (int w = 0; w <= LAST_WEEK; w += 10) {
                int week = w;
                REFUSED.no("sale at " + sale, Houses::busy, x -> x.demand(week, 0, sale));
            }
        }
        for (int week = 0; week <= LAST_WEEK; week++) {
            VolumeHouse x = new VolumeHouse();
            DUE.yes("sale at 1000", x.demand(week, 0, 1000));
            DUE.is("fifty are sold", x.gain(0, 999), 50);
            DUE.yes("sale at 0", x.demand(week, 0, 0));
            DUE.is("nothing is gained", x.best(0, 0), 0);
        }
    }

    /** '(WEEK 20: DEMAND is 0)' */
    private static void inWeek20NoneIsWanted() {
        int[] wrong = {-1, 1, 50, 51, MIN, MAX};
        for (int wanted : wrong) {
            REFUSED.no("demand " + wanted + " of week 20", Houses::busy, x -> x.demand(LAST_WEEK, wanted, 1000));
        }
        VolumeHouse x = new VolumeHouse();
        DUE.yes("demand 0 of week 20", x.demand(LAST_WEEK, 0, 5));
        DUE.yes("demand 50 of week 19", x.demand(19, 50, 5));
        DUE.is("kept through week 19", x.kept(10, 0, 0), 20);
    }

    private static void demandToldAnewIsTheOneThatCounts() {
        VolumeHouse x = new VolumeHouse();
        x.demand(3, 50, 1000);
        x.demand(3, 2, 6);
        DUE.is("two are wanted", x.best(10, 6), 2);
        DUE.is("the sale", x.gain(0, 5), 50);
        x.demand(3, 0, 0);
        DUE.is("nothing is left", x.gain(1000, 0), 0);
    }

    /** 'NONE if V or C isn't 0 .. 1000' */
    private static void gainAndCostAre0To1000() {
        VolumeHouse x = new VolumeHouse();
        x.demand(0, 1, 0);
        x.demand(1, 1, 1);
        int[] wrong = {-1, 1001, MIN, MAX};
        int[] right = {0, 1000};
        for (int a : wrong) {
            for (int b : right) {
                refused(x, a, b);
                refused(x, b, a);
            }
            refused(x, a, a);
        }
        DUE.is("best(0, 0)", x.best(0, 0), 50);
        DUE.is("gain(0, 0)", x.gain(0, 0), 50);
        DUE.is("kept(0, 0, 0)", x.kept(0, 0, 0), 1);
        DUE.is("best(1000, 1000)", x.best(1000, 1000), 1);
        DUE.is("gain(1000, 1000)", x.gain(1000, 1000), 1000);
        DUE.is("kept(1000, 1000, 0)", x.kept(1000, 1000, 0), 2);
        DUE.is("best(0, 1000)", x.best(0, 1000), 0);
        DUE.is("gain(0, 1000)", x.gain(0, 1000), 0);
        DUE.is("best(1000, 0)", x.best(1000, 0), 50);
        DUE.is("gain(1000, 0)", x.gain(1000, 0), 2000 + 49);
    }

    private static void refused(VolumeHouse x, int v, int c) {
        DUE.is("best(" + v + ", " + c + ")", x.best(v, c), -1);
        DUE.is("gain(" + v + ", " + c + ")", x.gain(v, c), -1);
        DUE.is("kept(" + v + ", " + c + ", 0)", x.kept(v, c, 0), -1);
    }

    /** 'a PLAN buys n sets (0 .. 50)' */
    private static void noSetsAreBought() {
        VolumeHouse x = new VolumeHouse();
        x.demand(0, 50, 3);
        DUE.is("too dear", x.best(4, 4), 0);
        DUE.is("nothing is lost by it", x.gain(4, 4), 0);
        DUE.is("no set is kept", x.kept(4, 4, 0), -1);
    }

    private static void oneSetIsBought() {
        VolumeHouse x = new VolumeHouse();
        for (int week = 0; week < LAST_WEEK; week++) {
            x.demand(week, 1, 0);
        }
        DUE.is("one", x.best(50, 999), 1);
        DUE.is("a coin", x.gain(50, 999), 1);
        DUE.is("kept to the end", x.kept(50, 999, 0), 20);
        DUE.is("no second one", x.kept(50, 999, 1), -1);
        DUE.is("none for a coin more", x.best(50, 1000), 0);
    }

    private static void fiftySetsAreBought() {
        VolumeHouse x = new VolumeHouse();
        x.demand(LAST_WEEK, 0, 8);
        DUE.is("fifty, though none is wanted", x.best(1000, 7), 50);
        DUE.is("fifty coins", x.gain(1000, 7), 50);
        DUE.is("the last one", x.kept(1000, 7, 49), 20);
        DUE.is("none beyond", x.kept(1000, 7, 50), -1);
        x.demand(0, 50, 0);
        DUE.is("fifty that are wanted", x.best(5, 12), 50);
        x.demand(0, 49, 0);
        DUE.is("forty-nine that are wanted", x.best(5, 12), 49);
        DUE.is("each brings a coin", x.gain(5, 12), 49);
    }

    /** 'as many have one as there are sets kept in it, at most as many as would' */
    private static void aSetMoreForEachThatIsWanted() {
        VolumeHouse x = new VolumeHouse();
        for (int wanted = 0; wanted <= 50; wanted++) {
            x.demand(4, wanted, 0);
            DUE.is(wanted + " wanted", x.best(10, 9), wanted);
            DUE.is("a coin for each", x.gain(10, 9), wanted);
        }
    }

    /** 'of like ones that of the fewest sets' */
    private static void setsThatBringNothingAreNotBought() {
        VolumeHouse x = new VolumeHouse();
        x.demand(0, 5, 20);
        x.demand(1, 2, 15);
        DUE.is("all bring more", x.best(10, 19), 50);
        DUE.is("sold at once for their cost: only those that are lent", x.best(10, 20), 5);
        DUE.is("gain", x.gain(10, 20), 2 * 5 + 3 * 5);
        DUE.is("lent for a week for their cost", x.best(10, 25), 0);
        DUE.is("a coin less", x.best(10, 24), 5);
        DUE.is("no cost, no gain, no sale", new VolumeHouse().best(0, 0), 0);
    }

    /** 'NONE likewise, or if there is none such' */
    private static void keptIsOfASetThatIsBought() {
        VolumeHouse x = new VolumeHouse();
        x.demand(0, 3, 0);
        int[] wrong = {-1, 3, 49, 50, MIN, MAX};
        for (int i : wrong) {
            DUE.is("kept of set " + i, x.kept(10, 5, i), -1);
        }
        for (int i = 0; i < 3; i++) {
            DUE.is("kept of set " + i, x.kept(10, 5, i), 1);
        }
        DUE.is("kept, when none is bought", x.kept(10, 10, 0), -1);
    }

    /** 'keeps each for its first WEEKS (0 .. 20 of them)' */
    private static void keptForNoWeek() {
        VolumeHouse x = new VolumeHouse();
        x.demand(0, 50, 1000);
        x.demand(1, 50, 999);
        DUE.is("sold at once", x.kept(0, 0, 0), 0);
        DUE.is("like ones: at once", x.kept(1, 0, 0), 0);
        DUE.is("a coin more: after a week", x.kept(2, 0, 0), 1);
    }

    private static void keptForEachNumberOfWeeks() {
        VolumeHouse x = new VolumeHouse();
        for (int week = 0; week < LAST_WEEK; week++) {
            x.demand(week, 1, 0);
            DUE.is("wanted through week " + week, x.kept(3, 0, 0), week + 1);
            DUE.is("gain", x.gain(3, 0), 3 * (week + 1));
        }
    }

    /** 'kept for the fewest WEEKS by which it brings most' */
    private static void keptForTheFewestWeeksOfLikeOnes() {
        VolumeHouse x = new VolumeHouse();
        for (int week = 0; week <= LAST_WEEK; week++) {
            x.demand(week, 0, 6);
        }
        DUE.is("all alike", x.kept(1000, 5, 0), 0);
        x.demand(0, 0, 5);
        DUE.is("from week 1 on alike", x.kept(1000, 5, 0), 1);
        x.demand(LAST_WEEK, 0, 7);
        DUE.is("the last is most", x.kept(1000, 5, 0), 20);
        x.demand(19, 0, 7);
        DUE.is("the last two alike", x.kept(1000, 5, 0), 19);
    }

    /** 'what a set can be SOLD for at the begin of each WEEK': who sells then has no gain of that week. */
    private static void saleCountsAtTheBeginOfAWeek() {
        VolumeHouse x = new VolumeHouse();
        x.demand(7, 1, 100);
        DUE.is("the sale of week 7 is more than its gain", x.kept(99, 0, 0), 7);
        DUE.is("gain of one set", x.gain(99, 99), 50);
        DUE.is("its gain is more", x.kept(101, 0, 0), 8);
        DUE.is("alike: the fewest", x.kept(100, 0, 0), 7);
    }

    private static void greatestSums() {
        VolumeHouse x = new VolumeHouse();
        for (int week = 0; week <= LAST_WEEK; week++) {
            x.demand(week, week == LAST_WEEK ? 0 : 50, 1000);
        }
        DUE.is("the greatest gain", x.gain(1000, 0), 50 * (20 * 1000 + 1000));
        DUE.is("at the greatest cost", x.gain(1000, 1000), 50 * 20 * 1000);
        DUE.is("no gain at it", x.best(0, 1000), 0);
    }

    /** 'if it is lent in each WEEK in which more than i would have one' */
    private static void setsAreSoldOneByOne() {
        VolumeHouse x = new VolumeHouse();
        for (int week = 0; week < LAST_WEEK; week++) {
            x.demand(week, LAST_WEEK - week, 0);
        }
        DUE.is("each pays for a week", x.best(10, 5), 20);
        for (int i = 0; i < 20; i++) {
            DUE.is("set " + i, x.kept(10, 5, i), 20 - i);
        }
        DUE.is("gain", x.gain(10, 5), 10 * 210 - 5 * 20);
    }
}
