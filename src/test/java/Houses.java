/** Runs of calls that lead to a house at an edge, for tests that begin there. */
final class Houses {
    private Houses() {
    }

    static void empty(VolumeHouse x) {
        // A new object is at this edge already.
    }

    /**
     * Day 13. Copies: 0 with reader 2, 1 in a box back from reader 1, 3 in a box to them, 4 and 13 lost,
     * 5 sold, 6 with reader 1 for a wish that was taken back, the others on the shelf.
     */
    static void busy(VolumeHouse x) {
        x.title(2);
        x.title(1);
        x.title(4);
        x.bargain(0, 0, 3, 7, 4);
        x.bargain(0, 20, 1, 9, 8);
        x.bargain(1, 14, 200, 6, 6);
        x.buy(0, 3);
        x.buy(1, 4);
        x.buy(2, 1);
        x.reader(0, 0, 5000);
        x.reader(1, 3, 5000);
        x.reader(2, 9, 40);
        x.wish(0, 0);
        x.wish(1, 0);
        x.wish(1, 1);
        x.wish(2, 0);
        x.go(1);
        x.go(11);
        x.back(2);
        x.back(1);
        x.go(1);
        x.pay(0, 4);
        x.lose(4);
        x.sell(5, 12);
        x.lose(13);
        x.unwish(2);
        x.reader(1, 0, 2);
        x.wish(3, 1);
        x.wish(2, 1);
        x.demand(0, 3, 40);
        x.demand(1, 2, 30);
        x.demand(5, 1, 35);
        x.demand(20, 0, 20);
    }

    /** Of everything as much as can come, in 182 calls: titles 0 to 9 have 20 copies each, 10 and 11 none. */
    static void full(VolumeHouse x) {
        for (int t = 0; t < 12; t++) {
            x.title(t < 10 ? 1 : 4);
        }
        for (int b = 0; b < 40; b++) {
            x.bargain(b % 12, b, b, 2 * b, 3 * b);
        }
        for (int t = 0; t < 10; t++) {
            x.buy(t, 20);
        }
        for (int r = 0; r < 20; r++) {
            x.reader(r % 3, r % 2, 5000);
        }
        for (int w = 0; w < 100; w++) {
            x.wish(w % 20, (w % 20 + w / 20) % 10);
        }
    }

    /** 40 bargains, of which the last told for title 0 is in force from day 0, and room for copies. */
    static void fullOfBargains(VolumeHouse x) {
        x.title(1);
        x.title(2);
        for (int b = 0; b < 39; b++) {
            x.bargain(b % 2, b, b, 100 + b, b);
        }
        x.bargain(0, 0, 1, 33, 22);
    }

    /** Now is 5000: copy 0 is in a box back of 3 days, copy 1 on the shelf, where reader 1 waits for one. */
    static void lastDay(VolumeHouse x) {
        x.title(1);
        x.buy(0, 2);
        x.reader(0, 3, 5000);
        x.reader(0, 0, 5000);
        x.wish(0, 0);
        for (int i = 0; i < 50; i++) {
            x.go(100);
        }
        x.back(0);
        x.wish(1, 0);
    }
}
