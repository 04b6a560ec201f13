/** Promises 11 to 13: back, lose, pay. */
public final class ReturnsTest {
    private static final Due DUE = new Due("ReturnsTest");

    public static void main(String[] args) {
        lateByClass();
        backRefused();
        backByBox();
        loseFromShelf();
        loseFromReader();
        loseFromBoxes();
        loseRefused();
        paying();
        DUE.end();
    }

    private static void lateByClass() {
        int[] term = {7, 14, 28};
        int[] coins = {3, 2, 1};
        for (int rank = 0; rank < 3; rank++) {
            DUE.is("on the last day of the term", lent(rank, 0, term[rank]).back(0), 0);
            DUE.is("a day late", lent(rank, 0, term[rank] + 1).back(0), coins[rank]);
            DUE.is("ten days late", lent(rank, 0, term[rank] + 10).back(0), 10 * coins[rank]);
            DUE.is("lost on the last day", lent(rank, 0, term[rank]).lose(0), 10);
            DUE.is("lost five days late", lent(rank, 0, term[rank] + 5).lose(0), 10 + 5 * coins[rank]);
            DUE.is("the term begins when the box comes", lent(rank, 4, term[rank] + 5).back(0), coins[rank]);
        }
        VolumeHouse x = lent(0, 0, 9);
        x.back(0);
        DUE.is("it is owed", x.told(0, 3), 6);
        DUE.is("on the shelf", x.copy(0, 0), 0);
        DUE.is("no reader", x.copy(0, 4), -1);
        DUE.is("since no day", x.copy(0, 5), -1);
        DUE.is("none in hand", x.told(0, 1), 0);
        DUE.is("had", x.wished(0, 0), 1);
    }

    private static void backRefused() {
        VolumeHouse x = lent(0, 0, 9);
        DUE.is("back -1", x.back(-1), -1);
        DUE.is("back 3", x.back(3), -1);
        DUE.is("back from the shelf", x.back(1), -1);
        x.sell(1, 1);
        DUE.is("back of a sold one", x.back(1), -1);
        x.lose(2);
        DUE.is("back of a lost one", x.back(2), -1);
        DUE.is("nothing is owed", x.told(0, 3), 0);
        x.back(0);
        DUE.is("back twice", x.back(0), -1);
        DUE.is("owed once", x.told(0, 3), 6);
        VolumeHouse y = lent(0, 3, 1);
        DUE.is("back from a box", y.back(0), -1);
        y.go(3);
        y.back(0);
        DUE.is("back from a box back", y.back(0), -1);
    }

    private static void backByBox() {
        VolumeHouse x = lent(1, 3, 4);
        DUE.is("with the reader", x.copy(0, 5), 3);
        DUE.is("back", x.back(0), 0);
        DUE.is("in a box back", x.copy(0, 0), 3);
        DUE.is("three days", x.copy(0, 6), 3);
        DUE.is("of the reader", x.copy(0, 4), 0);
        DUE.is("not with them", x.copy(0, 5), -1);
        DUE.is("in boxes", x.told(0, 2), 1);
        DUE.is("in hand", x.told(0, 1), 0);
        DUE.is("had", x.wished(0, 0), 1);
        DUE.is("no copy for it", x.wished(0, 2), -1);
        x.go(3);
        DUE.is("on the shelf", x.copy(0, 0), 0);
        DUE.is("no reader", x.copy(0, 4), -1);
        DUE.is("no box", x.told(0, 2), 0);
        DUE.is("no days", x.copy(0, 6), 0);
    }

    private static void loseFromShelf() {
        VolumeHouse x = lent(0, 0, 1);
        DUE.is("lose from the shelf", x.lose(1), 0);
        DUE.is("lost", x.copy(1, 0), 5);
        DUE.is("lost ones", x.count(8), 1);
        x.reader(2, 0, 5000);
        x.wish(1, 0);
        x.go(1);
        DUE.is("a lost one is never lent", x.wished(1, 2), 2);
    }

    private static void loseFromReader() {
        VolumeHouse x = new VolumeHouse();
        x.title(2);
        x.bargain(0, 0, 1, 33, 5);
        x.buy(0, 1);
        x.reader(0, 0, 5000);
        x.wish(0, 0);
        x.go(1);
        DUE.is("lose", x.lose(0), 33);
        DUE.is("owed", x.told(0, 3), 33);
        DUE.is("lost", x.copy(0, 0), 5);
        DUE.is("no reader", x.copy(0, 4), -1);
        DUE.is("since no day", x.copy(0, 5), -1);
        DUE.is("none in hand", x.told(0, 1), 0);
        DUE.is("counts as had", x.wished(0, 1), 1);
        DUE.is("the next one is waited for", x.wished(0, 3), 1);
        x.go(1);
        DUE.is("and comes", x.wished(0, 2), 1);
        x.go(9);
        DUE.is("lose late", x.lose(1), 5 + 3 * 3);
        DUE.is("owed in all", x.told(0, 3), 33 + 14);
        DUE.is("all had", x.wished(0, 0), 1);
        DUE.is("lost ones", x.count(8), 2);
    }

    private static void loseFromBoxes() {
        VolumeHouse x = lent(0, 5, 1);
        DUE.is("lose from a box to them", x.lose(0), 10);
        DUE.is("owed", x.told(0, 3), 10);
        DUE.is("no box", x.told(0, 2), 0);
        DUE.is("no days", x.copy(0, 6), 0);
        DUE.is("had", x.wished(0, 0), 1);
        VolumeHouse y = lent(0, 5, 15);
        DUE.is("late", y.back(0), 3 * 3);
        DUE.is("lose from a box back: what it cost to buy alone", y.lose(0), 10);
        DUE.is("owed", y.told(0, 3), 19);
        DUE.is("no box", y.told(0, 2), 0);
        DUE.is("no reader", y.copy(0, 4), -1);
        DUE.is("had once", y.wished(0, 1), 1);
        y.go(10);
        DUE.is("it never comes", y.copy(0, 0), 5);
    }

    private static void loseRefused() {
        VolumeHouse x = lent(0, 0, 1);
        DUE.is("lose -1", x.lose(-1), -1);
        DUE.is("lose 3", x.lose(3), -1);
        x.sell(1, 4);
        DUE.is("lose a sold one", x.lose(1), -1);
        DUE.is("sold yet", x.copy(1, 0), 4);
        x.lose(0);
        DUE.is("lose twice", x.lose(0), -1);
        DUE.is("owed once", x.told(0, 3), 10);
        DUE.is("lost ones", x.count(8), 1);
    }

    private static void paying() {
        VolumeHouse x = lent(0, 0, 9);
        DUE.is("nothing is owed", x.pay(0, 1), -1);
        x.back(0);
        DUE.is("pay of reader 1", x.pay(1, 1), -1);
        DUE.is("pay of reader -1", x.pay(-1, 1), -1);
        DUE.is("pay 0", x.pay(0, 0), -1);
        DUE.is("pay -1", x.pay(0, -1), -1);
        DUE.is("pay 7 of 6", x.pay(0, 7), -1);
        DUE.is("owed", x.told(0, 3), 6);
        DUE.is("none paid", x.count(7), 0);
        DUE.is("pay 2", x.pay(0, 2), 4);
        DUE.is("pay the rest", x.pay(0, 4), 0);
        DUE.is("paid", x.count(7), 6);
        DUE.is("pay more", x.pay(0, 1), -1);
    }

    /** Copy 0 of three goes to reader 0 on day 0; then so many days are over. */
    private static VolumeHouse lent(int rank, int boxDays, int days) {
        VolumeHouse x = new VolumeHouse();
        x.title(1);
        x.buy(0, 3);
        x.reader(rank, boxDays, 5000);
        x.wish(0, 0);
        x.go(days);
        return x;
    }
}
