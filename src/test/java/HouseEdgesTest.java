/** Promise 1, the empty and the full house, and the 512 calls of an object. */
public final class HouseEdgesTest {
    private static final Due DUE = new Due("HouseEdgesTest");
    private static final Refused REFUSED = new Refused(DUE);

    public static void main(String[] args) {
        newHouseHasNothing();
        newHouseHasNoDemandAndNoSales();
        emptyHouseRefusesWhatNeedsSomething();
        busyHouseIsAsTold();
        fullHouseTellsTheLastOfEach();
        fullHouseRefusesOneMoreOfEach();
        fullHouseEndsItsDays();
        the512thCallIsAnswered();
        laterCallsEnd();
        DUE.end();
    }

    /** 'No TITLES, no READERS; NOW is 0' */
    private static void newHouseHasNothing() {
        VolumeHouse x = new VolumeHouse();
        for (int what = 0; what <= 8; what++) {
            DUE.is("new: count(" + what + ")", x.count(what), 0);
        }
        for (int i = -1; i <= 1; i++) {
            for (int what = 0; what <= 7; what++) {
                DUE.is("new: copy", x.copy(i, what), -1);
                DUE.is("new: told", x.told(i, what), -1);
                DUE.is("new: wished", x.wished(i, what), -1);
                DUE.is("new: waiting", x.waiting(i, what), -1);
            }
            DUE.is("new: sets", x.sets(i), -1);
        }
        DUE.is("new: go(0)", x.go(0), 0);
    }

    /** 'DEMAND and sales are 0' */
    private static void newHouseHasNoDemandAndNoSales() {
        VolumeHouse x = new VolumeHouse();
        int[] coins = {0, 1, 1000};
        for (int v : coins) {
            for (int c : coins) {
                DUE.is("new: best", x.best(v, c), 0);
                DUE.is("new: gain", x.gain(v, c), 0);
                DUE.is("new: kept", x.kept(v, c, 0), -1);
            }
        }
    }

    private static void emptyHouseRefusesWhatNeedsSomething() {
        for (int i = -1; i <= 0; i++) {
            int number = i;
            REFUSED.no("empty: bargain", Houses::empty, x -> x.bargain(number, 0, 1, 1, 1));
            REFUSED.none("empty: buy", Houses::empty, x -> x.buy(number, 1));
            REFUSED.no("empty: sell", Houses::empty, x -> x.sell(number, 1));
            REFUSED.no("empty: renew", Houses::empty, x -> x.renew(number, 1));
            REFUSED.none("empty: wish", Houses::empty, x -> x.wish(number, number));
            REFUSED.no("empty: unwish", Houses::empty, x -> x.unwish(number));
            REFUSED.none("empty: back", Houses::empty, x -> x.back(number));
            REFUSED.none("empty: lose", Houses::empty, x -> x.lose(number));
            REFUSED.none("empty: pay", Houses::empty, x -> x.pay(number, 1));
        }
        VolumeHouse x = new VolumeHouse();
        DUE.is("empty: a hundred days end", x.go(100), 100);
    }

    /** The other edge tests begin here: every place, every state of a wish. */
    private static void busyHouseIsAsTold() {
        VolumeHouse x = new VolumeHouse();
        Houses.busy(x);
        int[] where = {1, 3, 0, 2, 5, 4, 1, 0, 0, 0, 0, 0, 0, 5};
        int[] reader = {2, 1, -1, 1, -1, -1, 1, -1, -1, -1, -1, -1, -1, -1};
        for (int c = 0; c < where.length; c++) {
            DUE.is("busy: where copy " + c + " is", x.copy(c, 0), where[c]);
            DUE.is("busy: reader of copy " + c, x.copy(c, 4), reader[c]);
        }
        int[] state = {1, 0, 2, 0, 0, 0};
        int[] waits = {-1, -1, -1, -1, 13, 13};
        for (int w = 0; w < state.length; w++) {
            DUE.is("busy: state of wish " + w, x.wished(w, 0), state[w]);
            DUE.is("busy: waiting of wish " + w, x.wished(w, 3), waits[w]);
        }
        int[] counts = {13, 3, 14, 4, 6, 33 + 40 + 40, 12, 4, 2};
        for (int what = 0; what < counts.length; what++) {
            DUE.is("busy: count(" + what + ")", x.count(what), counts[what]);
        }
        DUE.is("busy: owed by reader 0", x.told(0, 3), 15 - 4 + 4);
    }

    private static void fullHouseTellsTheLastOfEach() {
        VolumeHouse x = new VolumeHouse();
        Houses.full(x);
        int[] counts = {0, 12, 200, 20, 100};
        for (int what = 0; what < counts.length; what++) {
            DUE.is("full: count(" + what + ")", x.count(what), counts[what]);
        }
        DUE.is("full: title 11", x.sets(11), 0);
        DUE.is("full: its last volume", x.waiting(11, 3), 0);
        DUE.is("full: title 12", x.sets(12), -1);
        DUE.is("full: copy 199", x.copy(199, 1), 9);
        DUE.is("full: copy 200", x.copy(200, 1), -1);
        DUE.is("full: reader 19", x.told(19, 0), 1);
        DUE.is("full: reader 20", x.told(20, 0), -1);
        DUE.is("full: wish 99", x.wished(99, 3), 0);
        DUE.is("full: wish 100", x.wished(100, 3), -1);
        for (int t = 0; t < 10; t++) {
            DUE.is("full: copies of title " + t, x.sets(t), 20);
            DUE.is("full: wishes for title " + t, x.waiting(t, 0), 10);
        }
    }

    private static void fullHouseRefusesOneMoreOfEach() {
        REFUSED.none("full: title", Houses::full, x -> x.title(1));
        REFUSED.no("full: bargain", Houses::full, x -> x.bargain(0, 0, 1, 1, 1));
        REFUSED.none("full: buy", Houses::full, x -> x.buy(0, 1));
        REFUSED.none("full: reader", Houses::full, x -> x.reader(0, 0, 5000));
        REFUSED.none("full: wish", Houses::full, x -> x.wish(0, 11));
    }

    /** Seven readers of class 0 get one copy each, seven of class 1 three, six of class 2 all five. */
    private static void fullHouseEndsItsDays() {
        VolumeHouse x = new VolumeHouse();
        Houses.full(x);
        DUE.is("full: go(1)", x.go(1), 1);
        int[] most = {1, 3, 5};
        for (int r = 0; r < 20; r++) {
            DUE.is("full: in hand of reader " + r, x.told(r, 1), r % 2 == 0 ? most[r % 3] : 0);
            DUE.is("full: in boxes of reader " + r, x.told(r, 2), r % 2 == 1 ? most[r % 3] : 0);
        }
        DUE.is("full: go(100)", x.go(100), 101);
        int with = 0;
        for (int c = 0; c < 200; c++) {
            with += x.copy(c, 0) == 1 ? 1 : 0;
        }
        DUE.is("full: copies with readers", with, 7 + 21 + 30);
    }

    /** 'An object is used for at most 512 calls after it has been made' */
    private static void the512thCallIsAnswered() {
        VolumeHouse x = new VolumeHouse();
        for (int call = 1; call <= 512; call++) {
            DUE.is("call " + call, x.go(1), call);
        }
        VolumeHouse y = new VolumeHouse();
        for (int call = 1; call < 511; call++) {
            DUE.is("call " + call, y.title(5), -1);
        }
        DUE.is("call 511", y.title(4), 0);
        DUE.is("call 512", y.buy(0, 20), 800);
    }

    /** What they answer is free; but no call may throw. */
    private static void laterCallsEnd() {
        VolumeHouse x = new VolumeHouse();
        Houses.full(x);
        int[] any = {0, -1, 1, 99, 100, 199, 200, Integer.MIN_VALUE, Integer.MAX_VALUE};
        for (int round = 0; round < 50; round++) {
            for (int a : any) {
                x.title(a);
                x.bargain(a, a, a, a, a);
                x.buy(a, 1);
                x.sell(a, 1);
                x.reader(a, a, a);
                x.renew(a, a);
                x.wish(a, a);
                x.unwish(a);
                x.go(a);
                x.back(a);
                x.lose(a);
                x.pay(a, a);
                x.demand(a, a, a);
                x.kept(a, a, a);
            }
        }
        DUE.yes("later calls ended", true);
    }
}
