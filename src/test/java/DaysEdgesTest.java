/** The edges of promise 10: go, with the TURNS of part 2 and the end of a DAY of part 3. */
public final class DaysEdgesTest {
    private static final int MIN = Integer.MIN_VALUE;
    private static final int MAX = Integer.MAX_VALUE;
    private static final int[] MOST = {1, 3, 6};
    private static final Due DUE = new Due("DaysEdgesTest");
    private static final Refused REFUSED = new Refused(DUE);

    public static void main(String[] args) {
        goIsOf0To100Days();
        go0EndsNoDay();
        nowIs5000AtMost();
        noDayEndsOnTheLastDay();
        manyDaysAreLikeSingleOnes();
        mostInHand();
        mostInBoxesToThem();
        mostInBoxesBack();
        mostInHandAndInBoxes();
        turnOnTheLastDayOfTheSubscription();
        subscriptionEndsWithinACall();
        classGoesBeforeWaiting();
        aDayLongerGoesBeforeTheNumber();
        ofLikeOnesTheLeastNumber();
        whoFindsNoneOnTheShelfHoldsNobodyUp();
        whoHasTheMostHoldsNobodyUp();
        oneVolumeAtATime();
        firstVolumeFirst();
        laterVolumeWaitsFromTheDayTheOneAheadWasHad();
        openTillAllVolumesWereHad();
        copyOfTheLeastNumberThere();
        boxOfOneDay();
        boxesComeBeforeTurns();
        boxOnItsWayWaitsForNoSubscription();
        DUE.end();
    }

    /** 'n DAYS end (0 .. 100; ..): NOW; NONE for another n' */
    private static void goIsOf0To100Days() {
        int[] wrong = {-1, 101, MIN, MAX};
        for (int n : wrong) {
            REFUSED.none("go(" + n + ")", Houses::empty, x -> x.go(n));
            REFUSED.none("go(" + n + ")", Houses::busy, x -> x.go(n));
            REFUSED.none("go(" + n + ")", Houses::full, x -> x.go(n));
            REFUSED.none("go(" + n + ")", Houses::lastDay, x -> x.go(n));
        }
        VolumeHouse x = new VolumeHouse();
        DUE.is("go(0)", x.go(0), 0);
        DUE.is("go(1)", x.go(1), 1);
        DUE.is("go(100)", x.go(100), 101);
        DUE.is("go(99)", x.go(99), 200);
        DUE.is("now", x.count(0), 200);
    }

    private static void go0EndsNoDay() {
        REFUSED.changesNothing("go(0)", Houses::empty, x -> x.go(0));
        REFUSED.changesNothing("go(0)", Houses::busy, x -> x.go(0));
        REFUSED.changesNothing("go(0)", Houses::full, x -> x.go(0));
    }

    /** 'NOW is 5000 at most' */
    private static void nowIs5000AtMost() {
        int[][] cases = {{0, 100}, {0, 99}, {1, 99}, {1, 100}, {50, 50}, {50, 51}, {99, 1}, {99, 2}, {99, 100}, {99, 0}};
        for (int[] c : cases) {
            VolumeHouse x = new VolumeHouse();
            for (int i = 0; i < 49; i++) {
                x.go(100);
            }
            DUE.is("near the last day", x.go(c[0]), 4900 + c[0]);
            DUE.is("go(" + c[1] + ") there", x.go(c[1]), Math.min(5000, 4900 + c[0] + c[1]));
            DUE.is("now", x.count(0), Math.min(5000, 4900 + c[0] + c[1]));
        }
    }

    /** DAYS are 0 .. 5000: day 4999 is the last that ends. */
    private static void noDayEndsOnTheLastDay() {
        int[] days = {0, 1, 3, 100};
        for (int n : days) {
            REFUSED.changesNothing("go(" + n + ") on day 5000", Houses::lastDay, x -> x.go(n));
            VolumeHouse x = new VolumeHouse();
            Houses.lastDay(x);
            DUE.is("go(" + n + ") on day 5000", x.go(n), 5000);
        }
        VolumeHouse y = shelf(1, 1);
        y.reader(0, 1, 5000);
        for (int i = 0; i < 49; i++) {
            y.go(100);
        }
        y.go(98);
        y.wish(0, 0);
        DUE.is("the last two days", y.go(5), 5000);
        DUE.is("sent on day 4998, it came on day 4999", y.copy(0, 5), 4999);
    }

    private static void manyDaysAreLikeSingleOnes() {
        int[] days = {1, 2, 9, 10, 33};
        for (int n : days) {
            Everything atOnce = Everything.after(x -> { Houses.busy(x); x.go(n); });
            Everything oneByOne = Everything.after(x -> { Houses.busy(x); singleDays(x, n); });
            String unlike = atOnce.unlike(oneByOne);
            DUE.yes(n + " days at once and one by one: " + unlike, unlike == null);
        }
    }

    private static void singleDays(VolumeHouse x, int n) {
        for (int i = 0; i < n; i++) {
            x.go(1);
        }
    }

    /** 'has at most 1, 3, 6 COPIES at a time' */
    private static void mostInHand() {
        for (int rank = 0; rank <= 2; rank++) {
            VolumeHouse x = wishesForMany(rank, 0, MOST[rank]);
            DUE.is("so many in hand", x.told(0, 1), MOST[rank]);
            VolumeHouse y = wishesForMany(rank, 0, MOST[rank] + 1);
            DUE.is("no more in hand", y.told(0, 1), MOST[rank]);
            DUE.is("the last one waits", y.wished(MOST[rank], 3), 0);
            y.go(20);
            DUE.is("for ever", y.told(0, 1), MOST[rank]);
            y.lose(0);
            y.go(1);
            DUE.is("till one is lost", y.wished(MOST[rank], 2), MOST[rank]);
        }
    }

    /** '(in BOXES, too)' */
    private static void mostInBoxesToThem() {
        for (int rank = 0; rank <= 2; rank++) {
            VolumeHouse x = wishesForMany(rank, 9, MOST[rank]);
            DUE.is("so many in boxes", x.told(0, 2), MOST[rank]);
            VolumeHouse y = wishesForMany(rank, 9, MOST[rank] + 1);
            DUE.is("no more in boxes", y.told(0, 2), MOST[rank]);
            y.go(9);
            DUE.is("they came", y.told(0, 1), MOST[rank]);
            DUE.is("none was sent", y.told(0, 2), 0);
        }
    }

    private static void mostInBoxesBack() {
        for (int rank = 0; rank <= 2; rank++) {
            VolumeHouse x = wishesForMany(rank, 2, MOST[rank] + 1);
            x.go(2);
            for (int c = 0; c < MOST[rank]; c++) {
                x.back(c);
            }
            DUE.is("all in boxes back", x.told(0, 2), MOST[rank]);
            x.go(1);
            DUE.is("none is sent yet", x.copy(MOST[rank], 0), 0);
            x.go(1);
            DUE.is("sent on the day on which they come", x.copy(MOST[rank], 0), 2);
            DUE.is("that one alone", x.told(0, 2), 1);
        }
    }

    private static void mostInHandAndInBoxes() {
        VolumeHouse x = wishesForMany(1, 2, 5);
        x.go(2);
        x.back(0);
        DUE.is("two in hand", x.told(0, 1), 2);
        DUE.is("one in a box back", x.told(0, 2), 1);
        x.go(1);
        DUE.is("no fourth one", x.copy(3, 0), 0);
        x.go(1);
        DUE.is("the box came: the fourth one is sent", x.copy(3, 0), 2);
        DUE.is("two in hand", x.told(0, 1), 2);
        DUE.is("one in a box", x.told(0, 2), 1);
        x.lose(3);
        x.go(1);
        DUE.is("one lost from its box makes room", x.copy(4, 0), 2);
    }

    /** 'whose subscription's last DAY isn't ahead of NOW' */
    private static void turnOnTheLastDayOfTheSubscription() {
        for (int last = 3; last <= 5; last++) {
            VolumeHouse x = shelf(1, 1);
            x.reader(2, 0, last);
            x.go(4);
            x.wish(0, 0);
            x.go(1);
            DUE.is("on day 4, the last one is " + last, x.told(0, 1), last >= 4 ? 1 : 0);
        }
    }

    private static void subscriptionEndsWithinACall() {
        for (int last = 6; last <= 7; last++) {
            VolumeHouse x = shelf(1, 1);
            x.reader(0, 3, 5000);
            x.reader(0, 0, last);
            x.wish(0, 0);
            x.go(5);
            x.back(0);
            x.wish(1, 0);
            x.go(40);
            DUE.is("a box comes on day 7, the last one is " + last, x.copy(0, 0), last >= 7 ? 1 : 0);
        }
    }

    /** 'that one of the greatest CLASS' */
    private static void classGoesBeforeWaiting() {
        for (int rank = 0; rank <= 1; rank++) {
            VolumeHouse x = shelf(1, 1);
            x.reader(rank, 0, 5000);
            x.reader(rank + 1, 0, 5000);
            x.lose(0);
            x.wish(0, 0);
            x.go(50);
            x.wish(1, 0);
            x.buy(0, 1);
            x.go(1);
            DUE.is("the greater class, though it came later", x.copy(1, 4), 1);
            DUE.is("the other one waits since day 0", x.wished(0, 3), 0);
        }
    }

    /** 'of like ones that with the longest waiting': a day is enough, though the number be greater */
    private static void aDayLongerGoesBeforeTheNumber() {
        VolumeHouse x = shelf(2, 2);
        x.sell(2, 1);
        x.sell(3, 1);
        x.reader(1, 0, 5000);
        x.reader(1, 0, 5000);
        x.wish(0, 0);
        x.wish(1, 0);
        x.go(1);
        x.back(1);
        x.go(1);
        x.back(0);
        DUE.is("wish 1 waits since day 1", x.wished(1, 3), 1);
        DUE.is("wish 0 since day 2", x.wished(0, 3), 2);
        x.buy(0, 1);
        x.go(1);
        DUE.is("a day longer", x.copy(5, 4), 1);
        DUE.is("wish 0 waits yet", x.wished(0, 3), 2);
    }

    /** 'of like ones the least number' */
    private static void ofLikeOnesTheLeastNumber() {
        VolumeHouse x = shelf(2, 2);
        x.sell(2, 1);
        x.sell(3, 1);
        x.reader(1, 0, 5000);
        x.reader(1, 0, 5000);
        x.wish(1, 0);
        x.wish(0, 0);
        x.go(1);
        x.back(1);
        x.back(0);
        x.buy(0, 1);
        x.go(1);
        DUE.is("wish 0, though given back last and of reader 1", x.copy(5, 4), 1);
    }

    /** 'and of whose next VOLUME a COPY is on the SHELF' */
    private static void whoFindsNoneOnTheShelfHoldsNobodyUp() {
        VolumeHouse x = shelf(1, 1);
        x.title(1);
        x.reader(2, 0, 5000);
        x.reader(1, 0, 5000);
        x.reader(0, 0, 5000);
        x.wish(0, 1);
        x.wish(1, 1);
        x.wish(2, 0);
        x.go(1);
        DUE.is("the least class gets what is there", x.copy(0, 4), 2);
        x.buy(1, 1);
        x.go(1);
        DUE.is("the greatest gets its own", x.copy(1, 4), 0);
        x.wish(2, 1);
        x.back(0);
        x.wish(1, 0);
        x.go(1);
        DUE.is("when the shelf is empty again, too", x.copy(0, 4), 1);
        DUE.is("two wait for the other", x.waiting(1, 0), 2);
    }

    /** 'whose READER has fewer COPIES than the CLASS lets' */
    private static void whoHasTheMostHoldsNobodyUp() {
        VolumeHouse x = shelf(1, 2);
        x.title(1);
        x.buy(1, 1);
        x.reader(0, 0, 5000);
        x.reader(0, 0, 5000);
        x.wish(0, 0);
        x.wish(0, 1);
        x.go(1);
        x.wish(1, 1);
        x.go(1);
        DUE.is("the later wish of who has none", x.copy(2, 4), 1);
        DUE.is("the earlier one waits", x.wished(1, 3), 0);
    }

    /** 'What a WISH waits for is its next VOLUME' */
    private static void oneVolumeAtATime() {
        VolumeHouse x = shelf(4, 2);
        x.reader(2, 0, 5000);
        x.wish(0, 0);
        for (int volume = 0; volume < 4; volume++) {
            DUE.is("one waits for volume " + volume, x.waiting(0, volume), 1);
            x.go(10);
            DUE.is("it has volume " + volume, x.wished(0, 2), 2 * volume);
            DUE.is("and no other", x.told(0, 1), 1);
            DUE.is("none waits for it now", x.waiting(0, volume), 0);
            x.back(2 * volume);
        }
        DUE.is("all were had", x.wished(0, 0), 1);
    }

    /** 'from the first one on, each after the one ahead of it' */
    private static void firstVolumeFirst() {
        VolumeHouse x = shelf(3, 1);
        x.reader(2, 0, 5000);
        x.sell(0, 1);
        x.wish(0, 0);
        x.go(5);
        DUE.is("later volumes stay on the shelf", x.copy(1, 0) + x.copy(2, 0), 0);
        DUE.is("one waits for the first", x.waiting(0, 0), 1);
        DUE.is("none for the second", x.waiting(0, 1), 0);
        x.buy(0, 1);
        x.go(1);
        DUE.is("the first volume", x.wished(0, 2), 3);
    }

    /** 'for a later one from the DAY on which the one ahead was had' */
    private static void laterVolumeWaitsFromTheDayTheOneAheadWasHad() {
        VolumeHouse x = shelf(3, 1);
        x.reader(1, 2, 5000);
        x.go(1);
        x.wish(0, 0);
        DUE.is("from the day on which it came", x.wished(0, 3), 1);
        x.go(5);
        DUE.is("in hand: it doesn't", x.wished(0, 3), -1);
        x.back(0);
        DUE.is("from the day on which it was given back, not from that on which the box comes", x.wished(0, 3), 6);
        x.go(1);
        x.lose(1);
        DUE.is("from the day on which it was lost", x.wished(0, 3), 7);
        DUE.is("two were had", x.wished(0, 1), 2);
    }

    /** 'it is OPEN till the READER has had all its VOLUMES' */
    private static void openTillAllVolumesWereHad() {
        for (int volumes = 1; volumes <= 4; volumes++) {
            VolumeHouse x = shelf(volumes, 1);
            x.reader(0, 0, 5000);
            x.wish(0, 0);
            for (int volume = 0; volume < volumes; volume++) {
                DUE.is("open", x.wished(0, 0), 0);
                x.go(1);
                DUE.is("open with the volume in hand", x.wished(0, 0), 0);
                DUE.is("given back", x.back(volume), 0);
                DUE.is("so many had", x.wished(0, 1), volume + 1);
            }
            DUE.is("had", x.wished(0, 0), 1);
            DUE.is("no day from which it waits", x.wished(0, 3), -1);
            DUE.is("no open wish", x.told(0, 4), 0);
            x.go(5);
            DUE.is("no turn any more", x.told(0, 1), 0);
        }
    }

    /** 'it gets the COPY of the least number there' */
    private static void copyOfTheLeastNumberThere() {
        VolumeHouse x = shelf(1, 3);
        x.reader(1, 0, 5000);
        x.reader(1, 0, 5000);
        x.wish(0, 0);
        x.go(1);
        x.wish(1, 0);
        x.go(1);
        DUE.is("the least is out: the next", x.wished(1, 2), 1);
        x.back(0);
        x.wish(0, 0);
        x.go(1);
        DUE.is("the least is back: that one", x.wished(2, 2), 0);
        DUE.is("lent twice", x.copy(0, 7), 2);
        DUE.is("never lent", x.copy(2, 7), 0);
    }

    /** 'what is in one has a DAY less to go; what has none left comes' */
    private static void boxOfOneDay() {
        VolumeHouse x = shelf(1, 1);
        x.reader(0, 1, 5000);
        x.wish(0, 0);
        x.go(1);
        DUE.is("in the box", x.copy(0, 0), 2);
        DUE.is("a day to go", x.copy(0, 6), 1);
        DUE.is("since no day", x.copy(0, 5), -1);
        x.go(1);
        DUE.is("with them", x.copy(0, 0), 1);
        DUE.is("no day to go", x.copy(0, 6), 0);
        DUE.is("since day 1", x.copy(0, 5), 1);
        x.back(0);
        DUE.is("in the box back", x.copy(0, 0), 3);
        DUE.is("a day to go", x.copy(0, 6), 1);
        x.go(1);
        DUE.is("on the shelf", x.copy(0, 0), 0);
        DUE.is("no day to go", x.copy(0, 6), 0);
    }

    /** '(1) BOXES .. (2) TURNS. (3) NOW is one more.' */
    private static void boxesComeBeforeTurns() {
        VolumeHouse x = shelf(1, 1);
        x.reader(0, 1, 5000);
        x.reader(0, 9, 5000);
        x.wish(0, 0);
        x.go(2);
        x.back(0);
        x.wish(1, 0);
        DUE.is("now", x.go(1), 3);
        DUE.is("to the shelf and on in one day", x.copy(0, 0), 2);
        DUE.is("to the other reader", x.copy(0, 4), 1);
        DUE.is("its days begin with the next", x.copy(0, 6), 9);
        x.go(9);
        DUE.is("it came on day 11", x.copy(0, 5), 11);
    }

    private static void boxOnItsWayWaitsForNoSubscription() {
        VolumeHouse x = shelf(2, 1);
        x.reader(0, 9, 0);
        x.wish(0, 0);
        x.go(10);
        DUE.is("sent on the last day, it comes", x.copy(0, 0), 1);
        DUE.is("on day 9", x.copy(0, 5), 9);
        x.back(0);
        x.go(30);
        DUE.is("no next volume", x.copy(1, 0), 0);
        DUE.is("though it waits", x.wished(0, 3), 10);
    }

    /** One reader wishes for so many titles of one copy each, and a day ends. */
    private static VolumeHouse wishesForMany(int rank, int boxDays, int titles) {
        VolumeHouse x = new VolumeHouse();
        x.reader(rank, boxDays, 5000);
        for (int t = 0; t < titles; t++) {
            x.title(1);
            x.buy(t, 1);
            x.wish(0, t);
        }
        x.go(1);
        return x;
    }

    private static VolumeHouse shelf(int volumes, int sets) {
        VolumeHouse x = new VolumeHouse();
        x.title(volumes);
        x.buy(0, sets);
        return x;
    }
}
