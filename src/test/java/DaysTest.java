/** Promise 10: go, with BOXES, TURNS and the end of a DAY. */
public final class DaysTest {
    private static final Due DUE = new Due("DaysTest");

    public static void main(String[] args) {
        arguments();
        lastDay();
        nowStopsAtTheLastDay();
        nothingBeforeTheDayEnds();
        byClass();
        byWaiting();
        byNumber();
        laterVolumeWaitsFromTheDayTheOneAheadWasHad();
        mostAtATime();
        boxesCountForTheMost();
        boxesBeforeTurns();
        copyOfTheLeastNumber();
        subscriptionEndsInTheMidst();
        turnsInTheMidst();
        DUE.end();
    }

    private static void arguments() {
        VolumeHouse x = new VolumeHouse();
        int[] wrong = {-1, 101, Integer.MIN_VALUE, Integer.MAX_VALUE};
        for (int n : wrong) {
            DUE.is("go(" + n + ")", x.go(n), -1);
        }
        DUE.is("go(0)", x.go(0), 0);
        DUE.is("go(100)", x.go(100), 100);
        DUE.is("go(1)", x.go(1), 101);
        DUE.is("now", x.count(0), 101);
    }

    private static void lastDay() {
        VolumeHouse x = new VolumeHouse();
        x.title(1);
        x.buy(0, 1);
        x.reader(0, 0, 5000);
        for (int i = 1; i < 50; i++) {
            DUE.is("go(100)", x.go(100), i * 100);
        }
        DUE.is("go(99)", x.go(99), 4999);
        x.wish(0, 0);
        DUE.is("go to 5000", x.go(1), 5000);
        DUE.is("a turn", x.told(0, 1), 1);
        DUE.is("from the day that ended", x.copy(0, 5), 4999);
        DUE.is("go(0)", x.go(0), 5000);
    }

    private static void nowStopsAtTheLastDay() {
        VolumeHouse x = house(1, 2);
        x.reader(0, 3, 5000);
        x.reader(0, 0, 5000);
        for (int i = 1; i < 50; i++) {
            x.go(100);
        }
        x.go(96);
        x.wish(0, 0);
        x.go(2);
        DUE.is("before", x.count(0), 4998);
        DUE.is("days to go", x.copy(0, 6), 2);
        DUE.is("go beyond 5000", x.go(100), 5000);
        DUE.is("now", x.count(0), 5000);
        DUE.is("the box came", x.copy(0, 0), 1);
        DUE.is("on the last day that ended", x.copy(0, 5), 4999);
        x.back(0);
        x.wish(1, 0);
        DUE.is("no day ends", x.go(1), 5000);
        DUE.is("nor many", x.go(100), 5000);
        DUE.is("no box moves", x.copy(0, 6), 3);
        DUE.is("nobody has a turn", x.copy(1, 0), 0);
        DUE.is("still waits", x.wished(1, 3), 5000);
        DUE.is("now stays", x.count(0), 5000);
        DUE.is("another n", x.go(101), -1);
        DUE.is("another n below", x.go(-1), -1);
    }

    private static void nothingBeforeTheDayEnds() {
        VolumeHouse x = house(1, 1);
        x.reader(0, 0, 5000);
        x.wish(0, 0);
        x.go(0);
        DUE.is("no turn yet", x.copy(0, 0), 0);
        x.go(1);
        DUE.is("with the reader", x.copy(0, 0), 1);
        DUE.is("from the day that ended", x.copy(0, 5), 0);
    }

    private static void byClass() {
        VolumeHouse x = house(1, 2);
        x.reader(0, 0, 5000);
        x.reader(1, 0, 5000);
        x.reader(2, 0, 5000);
        x.wish(0, 0);
        x.lose(0);
        x.lose(1);
        x.go(5);
        x.wish(1, 0);
        x.go(5);
        x.wish(2, 0);
        x.buy(0, 2);
        x.go(1);
        DUE.is("first the greatest class", x.copy(2, 4), 2);
        DUE.is("then the next, though it waits less", x.copy(3, 4), 1);
        DUE.is("the least waits", x.wished(0, 3), 0);
    }

    private static void byWaiting() {
        VolumeHouse x = house(1, 1);
        x.lose(0);
        x.title(1);
        x.reader(1, 0, 5000);
        x.reader(1, 0, 5000);
        x.wish(0, 0);
        x.go(1);
        x.unwish(0);
        x.wish(1, 0);
        x.go(1);
        x.wish(0, 0);
        x.buy(0, 1);
        x.go(1);
        DUE.is("the longest waiting", x.copy(1, 4), 1);
    }

    private static void byNumber() {
        VolumeHouse x = house(1, 1);
        for (int r = 0; r < 3; r++) {
            x.reader(1, 0, 5000);
        }
        x.wish(2, 0);
        x.wish(0, 0);
        x.wish(1, 0);
        x.go(1);
        DUE.is("the least wish, not the least reader", x.copy(0, 4), 2);
        x.back(0);
        x.go(1);
        DUE.is("then the next wish", x.copy(0, 4), 0);
    }

    private static void laterVolumeWaitsFromTheDayTheOneAheadWasHad() {
        VolumeHouse x = house(2, 2);
        x.reader(1, 0, 5000);
        x.reader(1, 0, 5000);
        x.sell(3, 0);
        x.lose(2);
        x.wish(0, 0);
        x.go(1);
        x.wish(1, 0);
        x.go(3);
        x.back(1);
        x.go(2);
        x.back(0);
        DUE.is("waits from the day on which the one ahead was had", x.wished(1, 3), 4);
        DUE.is("not from the day on which it came", x.wished(0, 3), 6);
        x.buy(0, 1);
        x.go(1);
        DUE.is("so the later wish goes ahead", x.copy(5, 4), 1);
    }

    private static void mostAtATime() {
        int[] most = {1, 3, 6};
        for (int rank = 0; rank < 3; rank++) {
            VolumeHouse x = new VolumeHouse();
            x.reader(rank, 0, 5000);
            for (int t = 0; t < 8; t++) {
                x.title(1);
                x.buy(t, 1);
                x.wish(0, t);
            }
            x.go(10);
            DUE.is("at a time, class " + rank, x.told(0, 1), most[rank]);
            x.back(0);
            x.go(1);
            DUE.is("the next one, class " + rank, x.copy(most[rank], 0), 1);
            DUE.is("and no more, class " + rank, x.told(0, 1), most[rank]);
        }
    }

    private static void boxesCountForTheMost() {
        VolumeHouse x = house(2, 1);
        x.reader(0, 3, 5000);
        x.wish(0, 0);
        x.go(4);
        x.back(0);
        DUE.is("a box back", x.told(0, 2), 1);
        x.go(2);
        DUE.is("no other copy while it is on its way", x.copy(1, 0), 0);
        x.go(1);
        DUE.is("the box came, and the next is sent", x.copy(1, 0), 2);
    }

    private static void boxesBeforeTurns() {
        VolumeHouse x = house(1, 1);
        x.reader(1, 2, 5000);
        x.reader(1, 0, 5000);
        x.wish(0, 0);
        x.go(1);
        DUE.is("two days to go", x.copy(0, 6), 2);
        x.go(1);
        DUE.is("one day to go", x.copy(0, 6), 1);
        DUE.is("in a box", x.copy(0, 0), 2);
        x.go(1);
        DUE.is("with the reader", x.copy(0, 0), 1);
        DUE.is("since that day", x.copy(0, 5), 2);
        x.wish(1, 0);
        x.back(0);
        DUE.is("two days back", x.copy(0, 6), 2);
        x.go(1);
        DUE.is("in the box back", x.copy(0, 0), 3);
        x.go(1);
        DUE.is("on the shelf and lent on one day", x.copy(0, 4), 1);
        DUE.is("from that day", x.copy(0, 5), 4);
    }

    private static void copyOfTheLeastNumber() {
        VolumeHouse x = house(1, 3);
        x.reader(1, 0, 5000);
        x.sell(0, 1);
        x.wish(0, 0);
        x.go(1);
        DUE.is("the least that is on the shelf", x.wished(0, 2), 1);
        x.reader(1, 0, 5000);
        x.wish(1, 0);
        x.go(1);
        DUE.is("then the next", x.wished(1, 2), 2);
    }

    private static void subscriptionEndsInTheMidst() {
        VolumeHouse x = house(1, 1);
        x.reader(2, 5, 0);
        x.wish(0, 0);
        x.go(20);
        DUE.is("sent on the last day, it comes after it", x.copy(0, 0), 1);
        DUE.is("five days later", x.copy(0, 5), 5);
    }

    private static void turnsInTheMidst() {
        VolumeHouse x = house(1, 1);
        x.reader(0, 4, 5000);
        x.reader(0, 0, 5000);
        x.wish(0, 0);
        x.go(5);
        x.back(0);
        x.wish(1, 0);
        x.go(50);
        DUE.is("lent in the midst of fifty days", x.copy(0, 4), 1);
        DUE.is("on the day on which the box came", x.copy(0, 5), 8);
        DUE.is("late", x.back(0), 3 * (55 - 8 - 7));
    }

    private static VolumeHouse house(int volumes, int sets) {
        VolumeHouse x = new VolumeHouse();
        x.title(volumes);
        x.buy(0, sets);
        return x;
    }
}
