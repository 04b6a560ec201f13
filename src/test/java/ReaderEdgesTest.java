/** The edges of promises 6 to 9: reader, renew, wish, unwish. */
public final class ReaderEdgesTest {
    private static final int MIN = Integer.MIN_VALUE;
    private static final int MAX = Integer.MAX_VALUE;
    private static final Due DUE = new Due("ReaderEdgesTest");
    private static final Refused REFUSED = new Refused(DUE);

    public static void main(String[] args) {
        readerIsOfAClass();
        boxesTake0To9Days();
        subscriptionEndsOnADay();
        twentyReadersCome();
        renewIsOfAReader();
        renewIsToADay();
        renewCountsOnTheDayItself();
        wishIsOfAReader();
        wishIsForATitle();
        oneOpenWishForATitle();
        wishAgainWhenHadOrTakenBack();
        hundredWishesCome();
        unwishIsOfAWish();
        unwishIsOfAnOpenOne();
        unwishWhileItWaits();
        unwishedCopyInHandCountsWhenGivenBack();
        unwishedCopyCountsWhenLost();
        unwishedCopyInABoxStillComes();
        unwishedCopyCountsForTheMost();
        DUE.end();
    }

    /** 'NONE if there is no such CLASS' */
    private static void readerIsOfAClass() {
        int[] wrong = {-1, 3, MIN, MAX};
        for (int rank : wrong) {
            REFUSED.none("reader of class " + rank, Houses::busy, x -> x.reader(rank, 0, 5000));
            REFUSED.none("reader of class " + rank, Houses::empty, x -> x.reader(rank, 0, 5000));
        }
        VolumeHouse x = new VolumeHouse();
        for (int rank = 0; rank <= 2; rank++) {
            DUE.is("reader of class " + rank, x.reader(rank, 0, 5000), rank);
            DUE.is("class", x.told(rank, 0), rank);
        }
    }

    /** 'BOXES can't take so long (0 .. 9)' */
    private static void boxesTake0To9Days() {
        int[] wrong = {-1, 10, MIN, MAX};
        for (int days : wrong) {
            REFUSED.none("boxes of " + days, Houses::busy, x -> x.reader(0, days, 5000));
        }
        for (int days = 0; days <= 9; days++) {
            VolumeHouse x = shelf(1, 1);
            DUE.is("boxes of " + days, x.reader(0, days, 5000), 0);
            x.wish(0, 0);
            x.go(1);
            DUE.is("days to go", x.copy(0, 6), days);
            DUE.is("in a box or with them", x.copy(0, 0), days == 0 ? 1 : 2);
            x.go(days);
            DUE.is("with them", x.copy(0, 0), 1);
            DUE.is("from the day on which it came", x.copy(0, 5), days);
        }
    }

    /** 'the last DAY isn't 0 .. 5000' */
    private static void subscriptionEndsOnADay() {
        int[] wrong = {-1, 5001, MIN, MAX};
        for (int last : wrong) {
            REFUSED.none("last day " + last, Houses::busy, x -> x.reader(0, 0, last));
        }
        VolumeHouse x = shelf(1, 2);
        DUE.is("last day 0", x.reader(0, 0, 0), 0);
        DUE.is("told", x.told(0, 5), 0);
        DUE.is("last day 5000", x.reader(0, 0, 5000), 1);
        DUE.is("told", x.told(1, 5), 5000);
        x.wish(0, 0);
        x.go(1);
        DUE.is("a turn on day 0", x.told(0, 1), 1);
        x.go(1);
        DUE.is("a last day that is over is taken, too", x.reader(0, 0, 1), 2);
    }

    /** 'NONE if .. 20 came' */
    private static void twentyReadersCome() {
        VolumeHouse x = new VolumeHouse();
        for (int r = 0; r < 20; r++) {
            x.reader(3, 0, 0);
            DUE.is("reader after a refused one", x.reader(2, 9, 5000), r);
        }
        DUE.is("a twenty-first", x.reader(2, 9, 5000), -1);
        DUE.is("readers", x.count(3), 20);
        DUE.is("the last one", x.told(19, 5), 5000);
        DUE.is("none beyond", x.told(20, 5), -1);
        for (int rank = 0; rank <= 2; rank++) {
            int of = rank;
            REFUSED.none("a twenty-first of class " + rank, Houses::full, y -> y.reader(of, 0, 5000));
        }
    }

    /** 'false if there is no such READER' */
    private static void renewIsOfAReader() {
        int[] wrong = {-1, 4, 20, MIN, MAX};
        for (int r : wrong) {
            REFUSED.no("renew of reader " + r, Houses::busy, x -> x.renew(r, 100));
        }
        VolumeHouse x = new VolumeHouse();
        Houses.full(x);
        DUE.yes("renew of reader 0", x.renew(0, 7));
        DUE.yes("renew of reader 19", x.renew(19, 8));
        DUE.no("renew of reader 20", x.renew(20, 9));
        DUE.is("told of reader 0", x.told(0, 5), 7);
        DUE.is("told of reader 19", x.told(19, 5), 8);
        DUE.is("told of reader 18", x.told(18, 5), 5000);
    }

    /** 'false if there is no such .. DAY' */
    private static void renewIsToADay() {
        int[] wrong = {-1, 5001, MIN, MAX};
        for (int last : wrong) {
            REFUSED.no("renew to " + last, Houses::busy, x -> x.renew(2, last));
        }
        VolumeHouse x = new VolumeHouse();
        x.reader(0, 0, 100);
        x.go(50);
        DUE.yes("renew to 0, which is over", x.renew(0, 0));
        DUE.is("told", x.told(0, 5), 0);
        DUE.yes("renew to 5000", x.renew(0, 5000));
        DUE.is("told", x.told(0, 5), 5000);
        DUE.yes("renew to the same", x.renew(0, 5000));
        DUE.is("told", x.told(0, 5), 5000);
    }

    private static void renewCountsOnTheDayItself() {
        VolumeHouse x = shelf(1, 1);
        x.reader(0, 0, 5000);
        x.wish(0, 0);
        x.renew(0, 0);
        x.lose(0);
        x.go(5);
        x.buy(0, 1);
        x.renew(0, 4);
        x.go(1);
        DUE.is("renewed to yesterday", x.told(0, 1), 0);
        x.renew(0, 6);
        x.go(1);
        DUE.is("renewed to this day", x.told(0, 1), 1);
    }

    /** 'NONE if there is no such READER' */
    private static void wishIsOfAReader() {
        int[] wrong = {-1, 4, 20, MIN, MAX};
        for (int r : wrong) {
            REFUSED.none("wish of reader " + r, Houses::busy, x -> x.wish(r, 2));
        }
        VolumeHouse x = busy();
        DUE.is("wish of the first reader", x.wish(0, 2), 6);
        DUE.is("wish of the last reader, whose subscription is over", x.wish(3, 2), 7);
        DUE.is("both wait", x.waiting(2, 0), 2);
    }

    /** 'NONE if there is no such .. TITLE' */
    private static void wishIsForATitle() {
        int[] wrong = {-1, 3, 12, MIN, MAX};
        for (int t : wrong) {
            REFUSED.none("wish for title " + t, Houses::busy, x -> x.wish(0, t));
        }
        VolumeHouse x = busy();
        DUE.is("wish for the first title", x.wish(3, 0), 6);
        DUE.is("wish for the last title", x.wish(3, 2), 7);
        VolumeHouse y = new VolumeHouse();
        y.reader(0, 0, 0);
        y.title(1);
        DUE.is("wish for a title without copies", y.wish(0, 0), 0);
    }

    /** 'NONE if .. they have one for it that is OPEN', be it waiting, in a box or in hand */
    private static void oneOpenWishForATitle() {
        REFUSED.none("while it waits", Houses::busy, x -> x.wish(3, 1));
        REFUSED.none("while its copy is in a box", Houses::busy, x -> x.wish(1, 0));
        REFUSED.none("while its copy is in hand", Houses::busy, x -> x.wish(2, 0));
        VolumeHouse x = shelf(2, 1);
        x.reader(0, 0, 5000);
        x.wish(0, 0);
        x.go(1);
        x.back(0);
        DUE.is("between two volumes", x.wish(0, 0), -1);
        DUE.is("wishes ever", x.count(4), 1);
    }

    private static void wishAgainWhenHadOrTakenBack() {
        VolumeHouse x = busy();
        DUE.is("when it was had", x.wish(0, 0), 6);
        DUE.is("when it was taken back, with its copy in hand", x.wish(1, 1), 7);
        DUE.is("the new one waits", x.wished(7, 3), 13);
        DUE.is("and has no copy", x.wished(7, 2), -1);
        DUE.is("the old one's copy is told for it", x.wished(2, 2), 6);
        DUE.is("but not twice", x.wish(1, 1), -1);
    }

    /** 'NONE if .. 100 came' */
    private static void hundredWishesCome() {
        VolumeHouse x = shelf(1, 1);
        x.title(1);
        x.reader(0, 0, 5000);
        for (int w = 0; w < 99; w++) {
            DUE.is("wish " + w, x.wish(0, 0), w);
            DUE.is("a refused one", x.wish(0, 0), -1);
            x.unwish(w);
        }
        DUE.is("the hundredth", x.wish(0, 0), 99);
        DUE.is("one more", x.wish(0, 1), -1);
        DUE.is("wishes ever", x.count(4), 100);
        x.go(1);
        DUE.is("the hundredth has a turn", x.wished(99, 2), 0);
        x.back(0);
        DUE.is("it is had", x.wished(99, 0), 1);
        DUE.is("one more yet", x.wish(0, 0), -1);
        DUE.is("none beyond", x.wished(100, 0), -1);
        REFUSED.none("a hundred and first", Houses::full, y -> y.wish(19, 10));
    }

    /** 'false if there is none such' */
    private static void unwishIsOfAWish() {
        int[] wrong = {-1, 6, 100, MIN, MAX};
        for (int w : wrong) {
            REFUSED.no("unwish " + w, Houses::busy, x -> x.unwish(w));
        }
        VolumeHouse x = new VolumeHouse();
        Houses.full(x);
        DUE.yes("unwish 0", x.unwish(0));
        DUE.yes("unwish 99", x.unwish(99));
        DUE.no("unwish 100", x.unwish(100));
        DUE.is("open ones of reader 0", x.told(0, 4), 4);
        DUE.is("open ones of reader 19", x.told(19, 4), 4);
        DUE.is("open ones of reader 18", x.told(18, 4), 5);
    }

    /** 'false if there is none such OPEN' */
    private static void unwishIsOfAnOpenOne() {
        REFUSED.no("unwish one that was had", Houses::busy, x -> x.unwish(0));
        REFUSED.no("unwish one that was taken back", Houses::busy, x -> x.unwish(2));
        VolumeHouse x = busy();
        DUE.yes("unwish with a copy in a box", x.unwish(1));
        DUE.yes("unwish with a copy in hand", x.unwish(3));
        DUE.yes("unwish while it waits", x.unwish(4));
        for (int w = 1; w <= 4; w++) {
            DUE.is("taken back", x.wished(w, 0), 2);
            DUE.no("not again", x.unwish(w));
        }
    }

    private static void unwishWhileItWaits() {
        VolumeHouse x = shelf(1, 1);
        x.reader(0, 0, 5000);
        x.wish(0, 0);
        x.unwish(0);
        DUE.is("no day from which it waits", x.wished(0, 3), -1);
        DUE.is("nobody waits", x.waiting(0, 0), 0);
        DUE.is("no open wish", x.told(0, 4), 0);
        x.go(1);
        DUE.is("no turn", x.copy(0, 0), 0);
        DUE.is("no volume was had", x.wished(0, 1), 0);
    }

    /** 'A COPY that the READER has for it stays with them, is told for it, and counts as had when it is given back' */
    private static void unwishedCopyInHandCountsWhenGivenBack() {
        VolumeHouse x = busy();
        DUE.is("it stays with them", x.copy(6, 4), 1);
        DUE.is("in hand", x.copy(6, 0), 1);
        DUE.is("it is told", x.wished(2, 2), 6);
        DUE.is("not had yet", x.wished(2, 1), 0);
        x.go(5);
        DUE.is("a day late", x.back(6), 2);
        DUE.is("had", x.wished(2, 1), 1);
        DUE.is("told no more", x.wished(2, 2), -1);
        DUE.is("taken back yet", x.wished(2, 0), 2);
        DUE.is("it doesn't wait", x.wished(2, 3), -1);
    }

    /** '.. or LOST' */
    private static void unwishedCopyCountsWhenLost() {
        VolumeHouse x = busy();
        DUE.is("lost in hand", x.lose(6), 10);
        DUE.is("had", x.wished(2, 1), 1);
        DUE.is("told no more", x.wished(2, 2), -1);
        DUE.is("taken back yet", x.wished(2, 0), 2);
        x.unwish(1);
        DUE.is("lost in a box to them", x.lose(3), 4);
        DUE.is("both volumes had", x.wished(1, 1), 2);
        DUE.is("taken back yet", x.wished(1, 0), 2);
    }

    private static void unwishedCopyInABoxStillComes() {
        VolumeHouse x = busy();
        x.unwish(1);
        DUE.is("in the box", x.copy(3, 6), 3);
        DUE.is("told for it", x.wished(1, 2), 3);
        x.go(3);
        DUE.is("with them", x.copy(3, 0), 1);
        DUE.is("told for it yet", x.wished(1, 2), 3);
        DUE.is("given back", x.back(3), 0);
        DUE.is("had", x.wished(1, 1), 2);
        DUE.is("taken back yet", x.wished(1, 0), 2);
    }

    private static void unwishedCopyCountsForTheMost() {
        VolumeHouse x = shelf(1, 2);
        x.reader(0, 0, 5000);
        x.wish(0, 0);
        x.go(1);
        x.unwish(0);
        x.wish(0, 0);
        x.go(10);
        DUE.is("the new wish waits", x.wished(1, 3), 1);
        DUE.is("the copy in hand isn't for it", x.waiting(0, 0), 1);
        x.back(0);
        x.go(1);
        DUE.is("till the old copy is back", x.wished(1, 2), 0);
    }

    private static VolumeHouse shelf(int volumes, int sets) {
        VolumeHouse x = new VolumeHouse();
        x.title(volumes);
        x.buy(0, sets);
        return x;
    }

    private static VolumeHouse busy() {
        VolumeHouse x = new VolumeHouse();
        Houses.busy(x);
        return x;
    }
}
