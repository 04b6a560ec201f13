/** The edges of promises 11 to 13: back, lose, pay. */
public final class ReturnsEdgesTest {
    private static final int MIN = Integer.MIN_VALUE;
    private static final int MAX = Integer.MAX_VALUE;
    private static final int[] TERM = {7, 14, 28};
    private static final int[] COINS = {3, 2, 1};
    private static final Due DUE = new Due("ReturnsEdgesTest");
    private static final Refused REFUSED = new Refused(DUE);

    public static void main(String[] args) {
        backIsOfACopy();
        backIsFromAReaderAlone();
        backCostsBeyondTheTermAlone();
        daysInABoxAreNoDaysWithThem();
        backOnTheLastDay();
        backGoesToTheShelfOrIntoABox();
        backWhenTheSubscriptionIsOver();
        feesAddUp();
        loseIsOfACopy();
        loseOfSoldAndLostIsRefused();
        loseFromTheShelfCostsNothing();
        loseFromAReaderCostsTheLatenessToo();
        loseFromABoxToThem();
        loseFromABoxBack();
        loseOfACopyThatCostNothing();
        payIsOfAReader();
        payIsOf1ToWhatIsOwed();
        payOfWhoOwesNothing();
        DUE.end();
    }

    /** 'NONE if it isn't with a READER': there is no such copy */
    private static void backIsOfACopy() {
        int[] wrong = {-1, 14, 200, MIN, MAX};
        for (int c : wrong) {
            REFUSED.none("back(" + c + ")", Houses::busy, x -> x.back(c));
        }
        VolumeHouse x = new VolumeHouse();
        x.title(1);
        for (int i = 0; i < 10; i++) {
            x.buy(0, 20);
        }
        for (int c = 0; c < 199; c++) {
            x.sell(c, 1);
        }
        x.reader(0, 0, 5000);
        x.wish(0, 0);
        x.go(1);
        DUE.is("back(200)", x.back(200), -1);
        DUE.is("back(199)", x.back(199), 0);
        DUE.is("on the shelf", x.copy(199, 0), 0);
    }

    /** 'NONE if it isn't with a READER' */
    private static void backIsFromAReaderAlone() {
        REFUSED.none("back from a box back", Houses::busy, x -> x.back(1));
        REFUSED.none("back from the shelf", Houses::busy, x -> x.back(2));
        REFUSED.none("back from a box to them", Houses::busy, x -> x.back(3));
        REFUSED.none("back of a lost one", Houses::busy, x -> x.back(4));
        REFUSED.none("back of a sold one", Houses::busy, x -> x.back(5));
        VolumeHouse x = busy();
        DUE.is("back from a reader", x.back(0), 0);
        DUE.is("not again", x.back(0), -1);
        x.go(2);
        DUE.is("a day before the box comes", x.back(3), -1);
        x.go(1);
        DUE.is("on the day after it came", x.back(3), 0);
    }

    /** 'it costs, if it was with them for more DAYS than the TERM, each DAY above as told' */
    private static void backCostsBeyondTheTermAlone() {
        for (int rank = 0; rank <= 2; rank++) {
            int[] days = {1, TERM[rank] - 1, TERM[rank], TERM[rank] + 1, TERM[rank] + 2, 100};
            int[] above = {0, 0, 0, 1, 2, 100 - TERM[rank]};
            for (int i = 0; i < days.length; i++) {
                VolumeHouse x = lent(rank, 0, days[i]);
                DUE.is("class " + rank + " after " + days[i], x.back(0), above[i] * COINS[rank]);
                DUE.is("owed", x.told(0, 3), above[i] * COINS[rank]);
            }
        }
    }

    /** 'the TERM begins when it is with the READER' */
    private static void daysInABoxAreNoDaysWithThem() {
        for (int rank = 0; rank <= 2; rank++) {
            DUE.is("the term", lent(rank, 9, TERM[rank] + 9).back(0), 0);
            DUE.is("a day above", lent(rank, 9, TERM[rank] + 10).back(0), COINS[rank]);
            DUE.is("the term, a box of a day", lent(rank, 1, TERM[rank] + 1).back(0), 0);
            DUE.is("a day above, a box of a day", lent(rank, 1, TERM[rank] + 2).back(0), COINS[rank]);
        }
    }

    private static void backOnTheLastDay() {
        VolumeHouse x = lent(0, 0, 100);
        for (int i = 0; i < 50; i++) {
            x.go(100);
        }
        DUE.is("all days late", x.back(0), 3 * (5000 - 7));
        DUE.is("owed", x.told(0, 3), 14979);
        DUE.is("paid at once", x.pay(0, 14979), 0);
        VolumeHouse y = lent(2, 9, 9);
        for (int i = 0; i < 50; i++) {
            y.go(100);
        }
        DUE.is("all days late, by box", y.back(0), 5000 - 9 - 28);
        DUE.is("the box waits for ever", y.copy(0, 6), 9);
    }

    /** 'it is on the SHELF, or, of a READER with BOXES, in a BOX back for as many DAYS' */
    private static void backGoesToTheShelfOrIntoABox() {
        for (int boxDays = 0; boxDays <= 9; boxDays++) {
            VolumeHouse x = lent(0, boxDays, boxDays + 1);
            x.back(0);
            boolean box = boxDays > 0;
            DUE.is("where", x.copy(0, 0), box ? 3 : 0);
            DUE.is("its reader", x.copy(0, 4), box ? 0 : -1);
            DUE.is("from no day", x.copy(0, 5), -1);
            DUE.is("days to go", x.copy(0, 6), boxDays);
            DUE.is("in hand", x.told(0, 1), 0);
            DUE.is("in boxes", x.told(0, 2), box ? 1 : 0);
            DUE.is("had", x.wished(0, 0), 1);
            x.go(Math.max(0, boxDays - 1));
            DUE.is("a day before it comes", x.copy(0, 0), box ? 3 : 0);
            x.go(1);
            DUE.is("on the shelf", x.copy(0, 0), 0);
            DUE.is("no reader", x.copy(0, 4), -1);
            DUE.is("in no box", x.told(0, 2), 0);
        }
    }

    private static void backWhenTheSubscriptionIsOver() {
        VolumeHouse x = lent(0, 0, 9);
        x.renew(0, 0);
        DUE.is("two days late", x.back(0), 6);
        DUE.is("owed", x.told(0, 3), 6);
    }

    /** 'These are OWED by the READER' */
    private static void feesAddUp() {
        VolumeHouse x = lent(0, 0, 8);
        x.back(0);
        DUE.is("a day late", x.told(0, 3), 3);
        x.wish(0, 0);
        x.go(9);
        x.back(0);
        DUE.is("and two days", x.told(0, 3), 9);
        x.wish(0, 0);
        x.go(1);
        x.lose(0);
        DUE.is("and one lost", x.told(0, 3), 19);
        DUE.is("nothing is paid by that", x.count(7), 0);
    }

    /** 'NONE if there is none such' */
    private static void loseIsOfACopy() {
        int[] wrong = {-1, 14, 200, MIN, MAX};
        for (int c : wrong) {
            REFUSED.none("lose(" + c + ")", Houses::busy, x -> x.lose(c));
        }
        VolumeHouse x = new VolumeHouse();
        Houses.full(x);
        DUE.is("lose(200)", x.lose(200), -1);
        DUE.is("lose(199)", x.lose(199), 0);
        DUE.is("lose(0)", x.lose(0), 0);
        DUE.is("lost", x.count(8), 2);
        DUE.is("sets", x.sets(9), 19);
    }

    /** 'NONE if .. it is SOLD or LOST' */
    private static void loseOfSoldAndLostIsRefused() {
        REFUSED.none("lose one that a reader lost", Houses::busy, x -> x.lose(4));
        REFUSED.none("lose a sold one", Houses::busy, x -> x.lose(5));
        REFUSED.none("lose one that was lost from the shelf", Houses::busy, x -> x.lose(13));
    }

    /** 'of one on the SHELF 0' */
    private static void loseFromTheShelfCostsNothing() {
        VolumeHouse x = busy();
        DUE.is("never lent", x.lose(7), 0);
        DUE.is("lent before", x.lose(2), 0);
        DUE.is("who had it owes what they owed", x.told(0, 3), 15);
        DUE.is("lost", x.copy(2, 0), 5);
        DUE.is("how often it was lent", x.copy(2, 7), 1);
        x.go(2);
        DUE.is("from a box back to the shelf, then lost", x.lose(1), 0);
        DUE.is("nothing for reader 1", x.told(1, 3), 0);
        DUE.is("lost ones", x.count(8), 5);
    }

    /** 'A LOST one costs what it cost to buy, too' */
    private static void loseFromAReaderCostsTheLatenessToo() {
        for (int rank = 0; rank <= 2; rank++) {
            DUE.is("on the first day", lent(rank, 0, 1).lose(0), 10);
            DUE.is("at the term", lent(rank, 0, TERM[rank]).lose(0), 10);
            DUE.is("a day above", lent(rank, 0, TERM[rank] + 1).lose(0), 10 + COINS[rank]);
            VolumeHouse x = lent(rank, 9, TERM[rank] + 11);
            DUE.is("by box, two days above", x.lose(0), 10 + 2 * COINS[rank]);
            DUE.is("owed", x.told(0, 3), 10 + 2 * COINS[rank]);
            DUE.is("lost", x.copy(0, 0), 5);
            DUE.is("in hand", x.told(0, 1), 0);
            DUE.is("in no box", x.told(0, 2), 0);
            DUE.is("had", x.wished(0, 0), 1);
            DUE.is("no copy for it", x.wished(0, 2), -1);
        }
    }

    private static void loseFromABoxToThem() {
        for (int days = 1; days <= 9; days++) {
            VolumeHouse x = lent(0, 9, days);
            DUE.is("what it cost to buy", x.lose(0), 10);
            DUE.is("owed", x.told(0, 3), 10);
            DUE.is("in no box", x.told(0, 2), 0);
            DUE.is("no days to go", x.copy(0, 6), 0);
            DUE.is("no reader", x.copy(0, 4), -1);
            DUE.is("had", x.wished(0, 0), 1);
            x.go(20);
            DUE.is("it never comes", x.copy(0, 0), 5);
            DUE.is("to nobody", x.told(0, 1), 0);
        }
    }

    private static void loseFromABoxBack() {
        VolumeHouse x = lent(0, 2, 2 + 8);
        DUE.is("a day late", x.back(0), 3);
        x.go(1);
        DUE.is("what it cost to buy, the lateness but once", x.lose(0), 10);
        DUE.is("owed", x.told(0, 3), 13);
        DUE.is("in no box", x.told(0, 2), 0);
        DUE.is("had once", x.wished(0, 1), 1);
        x.go(5);
        DUE.is("it never comes", x.copy(0, 0), 5);
    }

    private static void loseOfACopyThatCostNothing() {
        VolumeHouse x = new VolumeHouse();
        x.title(1);
        x.bargain(0, 0, 1, 0, 1000);
        x.buy(0, 2);
        x.reader(0, 0, 5000);
        x.reader(0, 0, 5000);
        x.wish(0, 0);
        x.wish(1, 0);
        x.go(1);
        DUE.is("one that cost 0", x.lose(0), 0);
        DUE.is("owed", x.told(0, 3), 0);
        DUE.is("lost", x.copy(0, 0), 5);
        DUE.is("one that cost 1000", x.lose(1), 1000);
        DUE.is("owed", x.told(1, 3), 1000);
    }

    /** 'NONE if there is none such' */
    private static void payIsOfAReader() {
        int[] wrong = {-1, 4, 20, MIN, MAX};
        for (int r : wrong) {
            REFUSED.none("pay of reader " + r, Houses::busy, x -> x.pay(r, 1));
        }
        VolumeHouse x = new VolumeHouse();
        x.title(1);
        x.buy(0, 1);
        for (int r = 0; r < 20; r++) {
            x.reader(0, 0, 5000);
        }
        x.wish(19, 0);
        x.go(1);
        x.lose(0);
        DUE.is("pay of reader 20", x.pay(20, 1), -1);
        DUE.is("pay of reader 18", x.pay(18, 1), -1);
        DUE.is("pay of reader 19", x.pay(19, 10), 0);
    }

    /** 'NONE if .. n isn't 1 .. as much' */
    private static void payIsOf1ToWhatIsOwed() {
        int[] wrong = {0, 16, -1, -15, MIN, MAX};
        for (int n : wrong) {
            REFUSED.none("pay " + n + " of 15", Houses::busy, x -> x.pay(0, n));
        }
        VolumeHouse x = busy();
        DUE.is("pay 1 of 15", x.pay(0, 1), 14);
        DUE.is("paid", x.count(7), 5);
        DUE.is("pay 15 of 14", x.pay(0, 15), -1);
        DUE.is("pay 14 of 14", x.pay(0, 14), 0);
        DUE.is("owed", x.told(0, 3), 0);
        DUE.is("paid", x.count(7), 19);
        DUE.is("pay 1 of 0", x.pay(0, 1), -1);
        VolumeHouse y = busy();
        DUE.is("pay 15 of 15", y.pay(0, 15), 0);
    }

    private static void payOfWhoOwesNothing() {
        int[] wrong = {0, 1, -1, MIN, MAX};
        for (int n : wrong) {
            REFUSED.none("pay " + n + " of 0", Houses::busy, x -> x.pay(1, n));
        }
    }

    /** Copy 0 of the only title goes to reader 0 on day 0; then so many days are over. */
    private static VolumeHouse lent(int rank, int boxDays, int days) {
        VolumeHouse x = new VolumeHouse();
        x.title(1);
        x.buy(0, 1);
        x.reader(rank, boxDays, 5000);
        x.wish(0, 0);
        x.go(days);
        return x;
    }

    private static VolumeHouse busy() {
        VolumeHouse x = new VolumeHouse();
        Houses.busy(x);
        return x;
    }
}
