/** Promises 14 to 18 and 23: copy, told, wished, waiting, sets, count. */
public final class AnswersTest {
    private static final Due DUE = new Due("AnswersTest");

    public static void main(String[] args) {
        copies();
        lentTimes();
        readers();
        wishes();
        waiting();
        wholeSets();
        counts();
        DUE.end();
    }

    private static void copies() {
        VolumeHouse x = new VolumeHouse();
        x.title(1);
        x.title(2);
        x.buy(1, 2);
        int[] ofNewOne = {0, 1, 1, 10, -1, -1, 0, 0};
        for (int what = 0; what < 8; what++) {
            DUE.is("new copy " + what, x.copy(2, what), ofNewOne[what]);
        }
        others("copy", x.copy(2, -1), x.copy(2, 8), x.copy(-1, 0), x.copy(4, 0));
        x.reader(1, 2, 5000);
        x.wish(0, 1);
        x.go(1);
        int[] inBox = {2, 1, 0, 10, 0, -1, 2, 1};
        for (int what = 0; what < 8; what++) {
            DUE.is("copy in a box " + what, x.copy(0, what), inBox[what]);
        }
        x.go(2);
        int[] inHand = {1, 1, 0, 10, 0, 2, 0, 1};
        for (int what = 0; what < 8; what++) {
            DUE.is("copy in hand " + what, x.copy(0, what), inHand[what]);
        }
        x.sell(3, 5);
        int[] sold = {4, 1, 1, 10, -1, -1, 0, 0};
        for (int what = 0; what < 8; what++) {
            DUE.is("sold copy " + what, x.copy(3, what), sold[what]);
        }
    }

    private static void lentTimes() {
        VolumeHouse x = new VolumeHouse();
        x.title(1);
        x.buy(0, 1);
        x.reader(0, 0, 5000);
        for (int n = 1; n <= 5; n++) {
            x.wish(0, 0);
            x.go(2);
            DUE.is("lent", x.copy(0, 7), n);
            x.back(0);
            DUE.is("lent, when back", x.copy(0, 7), n);
        }
    }

    private static void readers() {
        VolumeHouse x = new VolumeHouse();
        x.reader(2, 1, 77);
        int[] ofNewOne = {2, 0, 0, 0, 0, 77};
        for (int what = 0; what < 6; what++) {
            DUE.is("new reader " + what, x.told(0, what), ofNewOne[what]);
        }
        others("told", x.told(0, -1), x.told(0, 6), x.told(-1, 0), x.told(1, 0));
        for (int t = 0; t < 4; t++) {
            x.title(2);
            x.buy(t, 1);
            x.wish(0, t);
        }
        x.go(1);
        DUE.is("in boxes", x.told(0, 2), 4);
        x.go(1);
        DUE.is("in hand", x.told(0, 1), 4);
        DUE.is("in no box", x.told(0, 2), 0);
        x.back(0);
        x.go(1);
        DUE.is("three in hand", x.told(0, 1), 3);
        DUE.is("a box to them", x.told(0, 2), 1);
        x.back(2);
        DUE.is("and one back", x.told(0, 2), 2);
        DUE.is("two in hand", x.told(0, 1), 2);
        x.unwish(3);
        DUE.is("open wishes", x.told(0, 4), 3);
    }

    private static void wishes() {
        VolumeHouse x = new VolumeHouse();
        x.title(2);
        x.reader(0, 1, 5000);
        x.go(3);
        x.wish(0, 0);
        wish(x, "new", 0, 0, -1, 3);
        others("wished", x.wished(0, -1), x.wished(0, 4), x.wished(-1, 0), x.wished(1, 0));
        x.buy(0, 1);
        x.go(1);
        wish(x, "in a box", 0, 0, 0, -1);
        x.go(1);
        wish(x, "in hand", 0, 0, 0, -1);
        x.back(0);
        wish(x, "between", 0, 1, -1, 5);
        x.go(3);
        wish(x, "the second", 0, 1, 1, -1);
        x.back(1);
        wish(x, "all", 1, 2, -1, -1);
    }

    private static void wish(VolumeHouse x, String when, int state, int had, int copy, int since) {
        DUE.is(when + ": state", x.wished(0, 0), state);
        DUE.is(when + ": volumes had", x.wished(0, 1), had);
        DUE.is(when + ": copy", x.wished(0, 2), copy);
        DUE.is(when + ": waits from", x.wished(0, 3), since);
    }

    private static void waiting() {
        VolumeHouse x = new VolumeHouse();
        x.title(2);
        x.title(1);
        for (int r = 0; r < 3; r++) {
            x.reader(1, 0, 5000);
            x.wish(r, 0);
        }
        others("waiting", x.waiting(-1, 0), x.waiting(2, 0), x.waiting(0, -1), x.waiting(0, 2));
        DUE.is("three wait", x.waiting(0, 0), 3);
        DUE.is("none for the second volume", x.waiting(0, 1), 0);
        DUE.is("none for the other title", x.waiting(1, 0), 0);
        x.buy(0, 1);
        x.go(1);
        DUE.is("two wait", x.waiting(0, 0), 2);
        DUE.is("one has it in hand", x.waiting(0, 1), 0);
        x.back(0);
        DUE.is("one waits for the second volume", x.waiting(0, 1), 1);
        x.unwish(1);
        DUE.is("one that was taken back waits no more", x.waiting(0, 0), 1);
        x.unwish(0);
        DUE.is("nor for a later volume", x.waiting(0, 1), 0);
    }

    private static void wholeSets() {
        VolumeHouse x = new VolumeHouse();
        x.title(3);
        x.title(1);
        DUE.is("sets of title 2", x.sets(2), -1);
        DUE.is("sets of title -1", x.sets(-1), -1);
        DUE.is("none", x.sets(0), 0);
        x.buy(0, 3);
        x.buy(1, 7);
        DUE.is("three", x.sets(0), 3);
        DUE.is("seven of the other", x.sets(1), 7);
        x.reader(2, 2, 5000);
        x.wish(0, 0);
        x.go(1);
        DUE.is("one in a box counts", x.sets(0), 3);
        x.go(2);
        DUE.is("one in hand counts", x.sets(0), 3);
        x.back(0);
        DUE.is("one in a box back counts", x.sets(0), 3);
        x.sell(8, 1);
        DUE.is("a sold one doesn't", x.sets(0), 2);
        x.sell(1, 1);
        DUE.is("of another volume: two yet", x.sets(0), 2);
        x.lose(7);
        DUE.is("a lost one doesn't", x.sets(0), 1);
        DUE.is("seven of the other yet", x.sets(1), 7);
    }

    private static void counts() {
        VolumeHouse x = new VolumeHouse();
        x.title(1);
        x.title(2);
        x.buy(1, 3);
        x.reader(0, 0, 5000);
        x.wish(0, 1);
        x.wish(0, 0);
        x.unwish(1);
        x.go(10);
        x.back(0);
        x.pay(0, 5);
        x.sell(5, 12);
        x.sell(4, 1);
        x.lose(3);
        int[] due = {10, 2, 6, 1, 2, 60, 13, 5, 1};
        for (int what = 0; what < due.length; what++) {
            DUE.is("count " + what, x.count(what), due[what]);
        }
        others("count", x.count(-1), x.count(9), x.count(Integer.MIN_VALUE), x.count(Integer.MAX_VALUE));
    }

    private static void others(String call, int... answers) {
        for (int answer : answers) {
            DUE.is(call + " of others", answer, -1);
        }
    }
}
