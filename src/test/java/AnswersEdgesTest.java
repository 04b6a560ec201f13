import java.util.function.Consumer;

/** The edges of promises 14 to 18 and 23: copy, told, wished, waiting, sets, count. */
public final class AnswersEdgesTest {
    private static final int MIN = Integer.MIN_VALUE;
    private static final int MAX = Integer.MAX_VALUE;
    private static final Due DUE = new Due("AnswersEdgesTest");
    private static final Refused REFUSED = new Refused(DUE);

    public static void main(String[] args) {
        copyIsAskedFor0To7();
        copyIsOfACopy();
        copyInEachPlace();
        lentCountsFromTheBoxOn();
        toldIsAskedFor0To5();
        toldIsOfAReader();
        toldOfEachReader();
        wishedIsAskedFor0To3();
        wishedIsOfAWish();
        wishedInEachState();
        waitingIsForATitle();
        waitingIsForAVolume();
        waitingCountsOpenOnesThatWait();
        setsIsOfATitle();
        setsOfNoCopies();
        setsIsTheFewestOfOneVolume();
        countIsAskedFor0To8();
        countOfEach();
        askingChangesNothing();
        DUE.end();
    }

    /** 'NONE for others' */
    private static void copyIsAskedFor0To7() {
        VolumeHouse x = busy();
        int[] wrong = {-1, 8, MIN, MAX};
        for (int c = 0; c < 14; c++) {
            for (int what : wrong) {
                DUE.is("copy(" + c + ", " + what + ")", x.copy(c, what), -1);
            }
        }
        DUE.is("the first thing", x.copy(0, 0), 1);
        DUE.is("the last thing", x.copy(0, 7), 1);
    }

    /** 'or if there is none such' */
    private static void copyIsOfACopy() {
        VolumeHouse x = busy();
        int[] wrong = {-1, 14, 199, 200, MIN, MAX};
        for (int c : wrong) {
            for (int what = -1; what <= 8; what++) {
                DUE.is("copy(" + c + ", " + what + ")", x.copy(c, what), -1);
            }
        }
        DUE.is("the last copy", x.copy(13, 2), 3);
        VolumeHouse y = new VolumeHouse();
        Houses.full(y);
        DUE.is("copy 199", y.copy(199, 1), 9);
        DUE.is("copy 200", y.copy(200, 1), -1);
    }

    /** 'its READER (NONE), 5 the DAY from which it is with the READER (NONE), 6 DAYS to go in a BOX (0)' */
    private static void copyInEachPlace() {
        VolumeHouse x = busy();
        copy(x, 0, "with a reader", 1, 0, 0, 7, 2, 9, 0, 1);
        copy(x, 1, "in a box back", 3, 0, 0, 7, 1, -1, 2, 1);
        copy(x, 2, "on the shelf, lent before", 0, 0, 0, 7, -1, -1, 0, 1);
        copy(x, 3, "in a box to a reader", 2, 0, 1, 4, 1, -1, 3, 1);
        copy(x, 4, "lost by a reader", 5, 0, 1, 4, -1, -1, 0, 1);
        copy(x, 5, "sold", 4, 0, 1, 4, -1, -1, 0, 0);
        copy(x, 6, "with a reader, the wish taken back", 1, 1, 0, 10, 1, 3, 0, 1);
        copy(x, 7, "on the shelf, never lent", 0, 1, 0, 10, -1, -1, 0, 0);
        copy(x, 13, "lost from the shelf", 5, 2, 3, 10, -1, -1, 0, 0);
    }

    private static void copy(VolumeHouse x, int c, String place, int... due) {
        for (int what = 0; what < 8; what++) {
            DUE.is(place + ": copy(" + c + ", " + what + ")", x.copy(c, what), due[what]);
        }
    }

    private static void lentCountsFromTheBoxOn() {
        VolumeHouse x = new VolumeHouse();
        x.title(1);
        x.buy(0, 1);
        x.reader(0, 1, 5000);
        DUE.is("never lent", x.copy(0, 7), 0);
        for (int n = 1; n <= 3; n++) {
            x.wish(0, 0);
            x.go(1);
            DUE.is("lent: in the box", x.copy(0, 7), n);
            x.go(1);
            DUE.is("lent: with them", x.copy(0, 7), n);
            x.back(0);
            x.go(1);
            DUE.is("lent: on the shelf", x.copy(0, 7), n);
        }
    }

    private static void toldIsAskedFor0To5() {
        VolumeHouse x = busy();
        int[] wrong = {-1, 6, MIN, MAX};
        for (int r = 0; r < 4; r++) {
            for (int what : wrong) {
                DUE.is("told(" + r + ", " + what + ")", x.told(r, what), -1);
            }
        }
        DUE.is("the first thing", x.told(2, 0), 2);
        DUE.is("the last thing", x.told(2, 5), 40);
    }

    private static void toldIsOfAReader() {
        VolumeHouse x = busy();
        int[] wrong = {-1, 4, 19, 20, MIN, MAX};
        for (int r : wrong) {
            for (int what = -1; what <= 6; what++) {
                DUE.is("told(" + r + ", " + what + ")", x.told(r, what), -1);
            }
        }
        DUE.is("the last reader", x.told(3, 5), 2);
        VolumeHouse y = new VolumeHouse();
        Houses.full(y);
        DUE.is("reader 19", y.told(19, 4), 5);
        DUE.is("reader 20", y.told(20, 4), -1);
    }

    private static void toldOfEachReader() {
        VolumeHouse x = busy();
        int[][] due = {{0, 0, 0, 15, 0, 5000}, {1, 1, 2, 0, 1, 5000}, {2, 1, 0, 0, 2, 40}, {1, 0, 0, 0, 1, 2}};
        for (int r = 0; r < 4; r++) {
            for (int what = 0; what < 6; what++) {
                DUE.is("told(" + r + ", " + what + ")", x.told(r, what), due[r][what]);
            }
        }
    }

    private static void wishedIsAskedFor0To3() {
        VolumeHouse x = busy();
        int[] wrong = {-1, 4, MIN, MAX};
        for (int w = 0; w < 6; w++) {
            for (int what : wrong) {
                DUE.is("wished(" + w + ", " + what + ")", x.wished(w, what), -1);
            }
        }
        DUE.is("the first thing", x.wished(2, 0), 2);
        DUE.is("the last thing", x.wished(4, 3), 13);
    }

    private static void wishedIsOfAWish() {
        VolumeHouse x = busy();
        int[] wrong = {-1, 6, 99, 100, MIN, MAX};
        for (int w : wrong) {
            for (int what = -1; what <= 4; what++) {
                DUE.is("wished(" + w + ", " + what + ")", x.wished(w, what), -1);
            }
        }
        DUE.is("the last wish", x.wished(5, 3), 13);
        VolumeHouse y = new VolumeHouse();
        Houses.full(y);
        DUE.is("wish 99", y.wished(99, 0), 0);
        DUE.is("wish 100", y.wished(100, 0), -1);
    }

    /** 'the COPY that they have for it (NONE), 3 the DAY from which it waits (NONE if it doesn't)' */
    private static void wishedInEachState() {
        VolumeHouse x = busy();
        int[][] due = {{1, 2, -1, -1}, {0, 1, 3, -1}, {2, 0, 6, -1}, {0, 0, 0, -1}, {0, 0, -1, 13}, {0, 0, -1, 13}};
        for (int w = 0; w < 6; w++) {
            for (int what = 0; what < 4; what++) {
                DUE.is("wished(" + w + ", " + what + ")", x.wished(w, what), due[w][what]);
            }
        }
        VolumeHouse y = new VolumeHouse();
        y.title(1);
        y.reader(0, 0, 0);
        y.wish(0, 0);
        DUE.is("it waits from day 0, which isn't NONE", y.wished(0, 3), 0);
        y.go(100);
        DUE.is("though the subscription is over", y.wished(0, 3), 0);
    }

    /** 'NONE if there is none such' */
    private static void waitingIsForATitle() {
        VolumeHouse x = busy();
        int[] wrong = {-1, 3, 11, 12, MIN, MAX};
        for (int t : wrong) {
            for (int volume = -1; volume <= 4; volume++) {
                DUE.is("waiting(" + t + ", " + volume + ")", x.waiting(t, volume), -1);
            }
        }
    }

    private static void waitingIsForAVolume() {
        VolumeHouse x = busy();
        int[] volumes = {2, 1, 4};
        for (int t = 0; t < 3; t++) {
            int[] wrong = {-1, volumes[t], 4, 5, MIN, MAX};
            for (int volume : wrong) {
                DUE.is("waiting(" + t + ", " + volume + ")", x.waiting(t, volume), -1);
            }
        }
        DUE.is("the last volume of four", x.waiting(2, 3), 0);
        DUE.is("the last volume of two", x.waiting(0, 1), 0);
        DUE.is("the only volume", x.waiting(1, 0), 2);
        VolumeHouse y = new VolumeHouse();
        y.title(4);
        y.title(1);
        y.buy(0, 1);
        y.reader(0, 0, 5000);
        y.wish(0, 0);
        for (int c = 0; c < 3; c++) {
            y.go(1);
            y.back(c);
        }
        DUE.is("one waits for the last volume", y.waiting(0, 3), 1);
        DUE.is("no volume of the next title", y.waiting(1, 0), 0);
    }

    /** 'How many WISHES wait for a VOLUME (of those that are OPEN)' */
    private static void waitingCountsOpenOnesThatWait() {
        VolumeHouse x = new VolumeHouse();
        Houses.full(x);
        DUE.is("ten wait", x.waiting(0, 0), 10);
        x.unwish(0);
        DUE.is("one was taken back", x.waiting(0, 0), 9);
        x.sell(0, 1);
        x.go(1);
        // Readers 8 and 17 of class 2 get all that they wish for, 10 and 19 of class 1 their first three.
        DUE.is("four have a copy and don't wait", x.waiting(0, 0), 5);
        int[] who = {8, 17, 10, 19};
        for (int i = 0; i < who.length; i++) {
            DUE.is("the copy of title 0 that they have", x.copy(1 + i, 4), who[i]);
        }
    }

    private static void setsIsOfATitle() {
        VolumeHouse x = busy();
        int[] wrong = {-1, 3, 11, 12, MIN, MAX};
        for (int t : wrong) {
            DUE.is("sets(" + t + ")", x.sets(t), -1);
        }
        DUE.is("the first title", x.sets(0), 1);
        DUE.is("a title of one volume", x.sets(1), 4);
        DUE.is("the last title, whose last volume is lost", x.sets(2), 0);
    }

    private static void setsOfNoCopies() {
        VolumeHouse x = new VolumeHouse();
        for (int t = 0; t < 12; t++) {
            x.title(1 + t % 4);
            DUE.is("none was bought", x.sets(t), 0);
        }
        x.buy(11, 1);
        DUE.is("one of the last title", x.sets(11), 1);
        DUE.is("none of the one ahead", x.sets(10), 0);
        DUE.is("none of title 12", x.sets(12), -1);
    }

    /** '(the fewest COPIES of one of its VOLUMES)', that aren't SOLD or LOST */
    private static void setsIsTheFewestOfOneVolume() {
        for (int volume = 0; volume < 4; volume++) {
            VolumeHouse x = new VolumeHouse();
            x.title(4);
            x.buy(0, 2);
            DUE.is("two", x.sets(0), 2);
            x.sell(2 * volume, 1);
            DUE.is("one of volume " + volume + " sold", x.sets(0), 1);
            x.lose(2 * volume + 1);
            DUE.is("the other lost", x.sets(0), 0);
            x.buy(0, 1);
            DUE.is("one more set", x.sets(0), 1);
        }
        VolumeHouse y = new VolumeHouse();
        y.title(1);
        for (int i = 0; i < 10; i++) {
            y.buy(0, 20);
        }
        DUE.is("200 copies of one title", y.sets(0), 200);
    }

    private static void countIsAskedFor0To8() {
        int[] wrong = {-1, 9, MIN, MAX};
        for (int what : wrong) {
            DUE.is("count(" + what + ")", busy().count(what), -1);
            DUE.is("count(" + what + ") of none", new VolumeHouse().count(what), -1);
        }
    }

    private static void countOfEach() {
        VolumeHouse x = busy();
        x.unwish(4);
        x.back(0);
        x.sell(2, 100);
        x.lose(7);
        x.pay(0, 15);
        int[] due = {13, 3, 14, 4, 6, 113, 112, 19, 3};
        for (int what = 0; what <= 8; what++) {
            DUE.is("count(" + what + ")", x.count(what), due[what]);
        }
    }

    private static void askingChangesNothing() {
        Consumer<VolumeHouse> ask = x -> {
            for (int i = -1; i <= 5; i++) {
                x.copy(i, i);
                x.told(i, i);
                x.wished(i, i);
                x.waiting(i, i);
                x.sets(i);
                x.count(i);
                x.best(i, i);
                x.gain(i, i);
                x.kept(i, i, i);
            }
        };
        REFUSED.changesNothing("asking", Houses::empty, ask);
        REFUSED.changesNothing("asking", Houses::busy, ask);
        REFUSED.changesNothing("asking", Houses::full, ask);
    }

    private static VolumeHouse busy() {
        VolumeHouse x = new VolumeHouse();
        Houses.busy(x);
        return x;
    }
}
