/** Promises 2 to 5: title, bargain, buy, sell. */
public final class TradeTest {
    private static final Due DUE = new Due("TradeTest");

    public static void main(String[] args) {
        titles();
        bargainsRefused();
        bargainsInForce();
        bargainsByPlace();
        buying();
        selling();
        DUE.end();
    }

    private static void titles() {
        VolumeHouse x = new VolumeHouse();
        int[] wrong = {0, 5, -1, Integer.MIN_VALUE, Integer.MAX_VALUE};
        for (int volumes : wrong) {
            DUE.is("title(" + volumes + ")", x.title(volumes), -1);
        }
        DUE.is("none came", x.count(1), 0);
        for (int t = 0; t < 12; t++) {
            DUE.is("title number", x.title(1 + t % 4), t);
        }
        DUE.is("a thirteenth title", x.title(1), -1);
        DUE.is("titles", x.count(1), 12);
        for (int t = 0; t < 12; t++) {
            DUE.is("the last volume", x.waiting(t, t % 4), 0);
            DUE.is("beyond the last volume", x.waiting(t, t % 4 + 1), -1);
        }
    }

    private static void bargainsRefused() {
        VolumeHouse x = new VolumeHouse();
        x.title(1);
        DUE.no("bargain title 1", x.bargain(1, 0, 1, 1, 1));
        DUE.no("bargain title -1", x.bargain(-1, 0, 1, 1, 1));
        DUE.no("bargain day -1", x.bargain(0, -1, 1, 1, 1));
        DUE.no("bargain day 5001", x.bargain(0, 5001, 1, 1, 1));
        DUE.no("bargain n -1", x.bargain(0, 0, -1, 1, 1));
        DUE.no("bargain n 201", x.bargain(0, 0, 201, 1, 1));
        DUE.no("bargain price -1", x.bargain(0, 0, 1, -1, 1));
        DUE.no("bargain price 1001", x.bargain(0, 0, 1, 1001, 1));
        DUE.no("bargain beyond -1", x.bargain(0, 0, 1, 1, -1));
        DUE.no("bargain beyond 1001", x.bargain(0, 0, 1, 1, 1001));
        DUE.is("refused bargains have no force", x.buy(0, 1), 10);
        DUE.yes("bargain edges high", x.bargain(0, 5000, 200, 1000, 1000));
        for (int b = 1; b < 40; b++) {
            DUE.yes("bargain " + b, x.bargain(0, 0, 0, 0, 0));
        }
        DUE.no("a forty-first bargain", x.bargain(0, 0, 200, 7, 7));
        DUE.is("the fortieth is in force", x.buy(0, 1), 0);
    }

    private static void bargainsInForce() {
        VolumeHouse x = new VolumeHouse();
        x.title(1);
        x.title(1);
        DUE.yes("from 4", x.bargain(0, 4, 200, 40, 0));
        DUE.yes("from 2", x.bargain(0, 2, 200, 20, 0));
        DUE.yes("from 2 again", x.bargain(0, 2, 200, 21, 0));
        DUE.yes("of another title", x.bargain(1, 3, 200, 99, 0));
        DUE.is("day 0", x.buy(0, 1), 10);
        x.go(1);
        DUE.is("day 1", x.buy(0, 1), 10);
        x.go(1);
        DUE.is("day 2: the latest told of like ones", x.buy(0, 1), 21);
        x.go(1);
        DUE.is("day 3", x.buy(0, 1), 21);
        DUE.is("day 3, the other title", x.buy(1, 1), 99);
        x.go(1);
        DUE.is("day 4: told earlier, of a greater day", x.buy(0, 1), 40);
        x.bargain(0, 0, 200, 1, 1);
        DUE.is("a later told one of a lesser day", x.buy(0, 1), 40);
    }

    private static void bargainsByPlace() {
        VolumeHouse x = new VolumeHouse();
        x.title(3);
        x.bargain(0, 0, 4, 7, 3);
        DUE.is("three volumes twice", x.buy(0, 2), 4 * 7 + 2 * 3);
        int[] costs = {7, 7, 7, 7, 3, 3};
        for (int c = 0; c < 6; c++) {
            DUE.is("volume of copy " + c, x.copy(c, 2), c / 2);
            DUE.is("cost of copy " + c, x.copy(c, 3), costs[c]);
        }
        DUE.is("places begin anew in each purchase", x.buy(0, 1), 21);
        DUE.is("all purchases", x.count(5), 34 + 21);
    }

    private static void buying() {
        VolumeHouse x = new VolumeHouse();
        x.title(4);
        x.title(1);
        DUE.is("buy title 2", x.buy(2, 1), -1);
        DUE.is("buy title -1", x.buy(-1, 1), -1);
        DUE.is("buy 0 sets", x.buy(0, 0), -1);
        DUE.is("buy -1 sets", x.buy(0, -1), -1);
        DUE.is("buy 21 sets", x.buy(0, 21), -1);
        DUE.is("buy many sets", x.buy(0, Integer.MAX_VALUE), -1);
        DUE.is("nothing was bought", x.count(2) + x.count(5), 0);
        DUE.is("buy 20 sets", x.buy(0, 20), 800);
        DUE.is("buy 20 sets more", x.buy(0, 20), 800);
        DUE.is("buy 9 sets", x.buy(0, 9), 360);
        DUE.is("196 copies", x.count(2), 196);
        DUE.is("buy 5 beyond 200", x.buy(1, 5), -1);
        DUE.is("196 yet", x.count(2), 196);
        DUE.is("buy the last four", x.buy(1, 4), 40);
        DUE.is("200 copies", x.count(2), 200);
        DUE.yes("sell one", x.sell(0, 1));
        DUE.is("a sold one makes no room", x.buy(1, 1), -1);
        DUE.is("copy 199", x.copy(199, 1), 1);
        DUE.is("copy 200", x.copy(200, 1), -1);
    }

    private static void selling() {
        VolumeHouse x = new VolumeHouse();
        x.title(1);
        x.buy(0, 5);
        DUE.no("sell copy -1", x.sell(-1, 1));
        DUE.no("sell copy 5", x.sell(5, 1));
        DUE.no("sell for -1", x.sell(0, -1));
        DUE.no("sell for 1001", x.sell(0, 1001));
        DUE.is("still on the shelf", x.copy(0, 0), 0);
        DUE.is("nothing was earned", x.count(6), 0);
        DUE.yes("sell for 1000", x.sell(0, 1000));
        DUE.yes("sell for 0", x.sell(1, 0));
        DUE.no("sell again", x.sell(0, 1));
        DUE.is("sold", x.copy(0, 0), 4);
        DUE.is("earned", x.count(6), 1000);
        x.lose(2);
        DUE.no("sell a lost one", x.sell(2, 1));
        x.reader(2, 0, 9);
        x.wish(0, 0);
        x.go(1);
        DUE.is("a sold copy is never lent", x.copy(3, 0), 1);
        DUE.no("sell one with a reader", x.sell(3, 1));
        x.reader(2, 2, 9);
        x.wish(1, 0);
        x.go(1);
        DUE.no("sell one in a box", x.sell(4, 1));
        x.go(2);
        x.back(4);
        DUE.no("sell one in a box back", x.sell(4, 1));
        x.go(2);
        DUE.yes("sell it from the shelf", x.sell(4, 1));
        DUE.is("earned in all", x.count(6), 1001);
    }
}
