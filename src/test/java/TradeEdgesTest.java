/** The edges of promises 2 to 5: title, bargain, buy, sell. */
public final class TradeEdgesTest {
    private static final int MIN = Integer.MIN_VALUE;
    private static final int MAX = Integer.MAX_VALUE;
    private static final Due DUE = new Due("TradeEdgesTest");
    private static final Refused REFUSED = new Refused(DUE);

    public static void main(String[] args) {
        titleHasOneToFourVolumes();
        twelveTitlesCome();
        bargainIsForATitle();
        bargainIsFromADay();
        bargainIsForTheFirst0To200();
        bargainHasPrices();
        fortyBargainsCome();
        bargainIsInForceFromItsDayOn();
        bargainOfTheLastDay();
        greatestDayThenLatestTold();
        withoutABargainACopyCosts10();
        firstCopiesAndThoseBeyond();
        purchaseGoesVolumeByVolume();
        buyIsOfATitle();
        buyIsOf1To20Sets();
        twoHundredCopiesCome();
        soldAndLostCopiesMakeNoRoom();
        sellIsFor0To1000();
        sellIsOfACopy();
        sellIsFromTheShelfAlone();
        DUE.end();
    }

    /** 'NONE if it can't have so many VOLUMES' (1 to 4) */
    private static void titleHasOneToFourVolumes() {
        for (int v = 1; v <= 4; v++) {
            VolumeHouse x = new VolumeHouse();
            DUE.is("title(" + v + ")", x.title(v), 0);
            DUE.is("its first volume", x.waiting(0, 0), 0);
            DUE.is("its last volume", x.waiting(0, v - 1), 0);
            DUE.is("beyond its last volume", x.waiting(0, v), -1);
            DUE.is("a set of it", x.buy(0, 1), 10 * v);
        }
        int[] wrong = {0, 5, -1, MIN, MAX};
        for (int v : wrong) {
            REFUSED.none("title(" + v + ")", Houses::empty, x -> x.title(v));
            REFUSED.none("title(" + v + ")", Houses::busy, x -> x.title(v));
        }
    }

    /** 'NONE if .. 12 came' */
    private static void twelveTitlesCome() {
        VolumeHouse x = new VolumeHouse();
        for (int t = 0; t < 12; t++) {
            x.title(0);
            DUE.is("title after a refused one", x.title(4), t);
        }
        for (int v = 1; v <= 4; v++) {
            int volumes = v;
            DUE.is("a thirteenth title", x.title(v), -1);
            REFUSED.none("a thirteenth title", Houses::full, y -> y.title(volumes));
        }
        DUE.is("titles", x.count(1), 12);
    }

    /** 'false if there is no such TITLE' */
    private static void bargainIsForATitle() {
        int[] wrong = {-1, 3, 12, MIN, MAX};
        for (int t : wrong) {
            REFUSED.no("bargain for title " + t, Houses::busy, x -> x.bargain(t, 0, 1, 1, 1));
        }
        VolumeHouse x = busy();
        DUE.yes("bargain for the first title", x.bargain(0, 13, 200, 5, 5));
        DUE.yes("bargain for the last title", x.bargain(2, 13, 200, 3, 3));
        DUE.is("the first title", x.buy(0, 1), 10);
        DUE.is("the last title", x.buy(2, 1), 12);
        VolumeHouse y = new VolumeHouse();
        for (int t = 0; t < 12; t++) {
            y.title(1);
        }
        DUE.yes("bargain for title 11", y.bargain(11, 0, 1, 77, 1));
        DUE.no("bargain for title 12", y.bargain(12, 0, 1, 77, 1));
        DUE.is("title 11", y.buy(11, 1), 77);
        DUE.is("title 10", y.buy(10, 1), 10);
    }

    /** 'false if there is no such .. DAY' */
    private static void bargainIsFromADay() {
        int[] wrong = {-1, 5001, MIN, MAX};
        for (int day : wrong) {
            REFUSED.no("bargain from day " + day, Houses::busy, x -> x.bargain(0, day, 1, 1, 1));
        }
        VolumeHouse x = busy();
        DUE.yes("bargain from day 0, which is over", x.bargain(2, 0, 200, 2, 2));
        DUE.yes("bargain from day 5000", x.bargain(2, 5000, 200, 1, 1));
        DUE.is("that of day 0 is in force", x.buy(2, 1), 8);
    }

    /** 'false if .. n isn't 0 .. 200' */
    private static void bargainIsForTheFirst0To200() {
        int[] wrong = {-1, 201, MIN, MAX};
        for (int n : wrong) {
            REFUSED.no("bargain for the first " + n, Houses::busy, x -> x.bargain(0, 13, n, 1, 1));
        }
        VolumeHouse x = new VolumeHouse();
        x.title(4);
        DUE.yes("bargain for the first 0", x.bargain(0, 0, 0, 1000, 1));
        DUE.is("all are beyond", x.buy(0, 20), 80);
        DUE.yes("bargain for the first 200", x.bargain(0, 0, 200, 2, 1000));
        DUE.is("none is beyond", x.buy(0, 20), 160);
    }

    /** 'false if .. a PRICE isn't 0 .. 1000' */
    private static void bargainHasPrices() {
        int[] wrong = {-1, 1001, MIN, MAX};
        for (int price : wrong) {
            REFUSED.no("bargain at " + price, Houses::busy, x -> x.bargain(0, 13, 1, price, 1));
            REFUSED.no("bargain at " + price + " beyond", Houses::busy, x -> x.bargain(0, 13, 1, 1, price));
        }
        VolumeHouse x = new VolumeHouse();
        x.title(1);
        DUE.yes("bargain at 0, 1000 beyond", x.bargain(0, 0, 1, 0, 1000));
        DUE.is("two sets", x.buy(0, 2), 1000);
        DUE.is("one for nothing", x.buy(0, 1), 0);
        DUE.yes("bargain at 1000, 0 beyond", x.bargain(0, 0, 1, 1000, 0));
        DUE.is("two sets", x.buy(0, 2), 1000);
        DUE.is("the first one", x.copy(3, 3), 1000);
        DUE.is("the one beyond", x.copy(4, 3), 0);
        x.bargain(0, 0, 200, 1000, 1000);
        DUE.is("twenty at 1000", x.buy(0, 20), 20000);
        DUE.is("all purchases", x.count(5), 22000);
    }

    /** 'false if .. 40 came' */
    private static void fortyBargainsCome() {
        VolumeHouse x = new VolumeHouse();
        x.title(1);
        x.title(1);
        for (int b = 0; b < 40; b++) {
            DUE.no("a refused one", x.bargain(0, 0, 201, b, b));
            DUE.yes("bargain " + b, x.bargain(b % 2, 0, 1, b, b));
        }
        DUE.no("a forty-first", x.bargain(0, 0, 1, 500, 500));
        DUE.no("a forty-first of the other title", x.bargain(1, 0, 1, 500, 500));
        DUE.is("the thirty-ninth", x.buy(0, 1), 38);
        DUE.is("the fortieth", x.buy(1, 1), 39);
        REFUSED.no("a forty-first", Houses::fullOfBargains, y -> y.bargain(0, 0, 1, 500, 500));
        REFUSED.no("a forty-first of a later day", Houses::fullOfBargains, y -> y.bargain(1, 5000, 1, 500, 500));
    }

    /** 'That in force on a DAY is the one with the greatest DAY that isn't above it' */
    private static void bargainIsInForceFromItsDayOn() {
        VolumeHouse x = new VolumeHouse();
        x.title(1);
        x.bargain(0, 5, 200, 55, 55);
        x.bargain(0, 6, 200, 66, 66);
        x.go(4);
        DUE.is("the day before", x.buy(0, 1), 10);
        x.go(1);
        DUE.is("its day", x.buy(0, 1), 55);
        x.go(1);
        DUE.is("the day of the next", x.buy(0, 1), 66);
        x.go(100);
        DUE.is("long after", x.buy(0, 1), 66);
        VolumeHouse y = new VolumeHouse();
        y.title(1);
        y.bargain(0, 0, 200, 3, 3);
        DUE.is("from day 0 on day 0", y.buy(0, 1), 3);
    }

    private static void bargainOfTheLastDay() {
        VolumeHouse x = new VolumeHouse();
        x.title(1);
        x.bargain(0, 5000, 200, 55, 55);
        for (int i = 0; i < 49; i++) {
            x.go(100);
        }
        x.go(99);
        DUE.is("on day 4999", x.buy(0, 1), 10);
        x.go(1);
        DUE.is("on day 5000", x.buy(0, 1), 55);
    }

    /** '(of like ones the latest told)' */
    private static void greatestDayThenLatestTold() {
        VolumeHouse x = new VolumeHouse();
        x.title(1);
        x.bargain(0, 3, 200, 31, 31);
        x.bargain(0, 3, 200, 32, 32);
        x.bargain(0, 2, 200, 20, 20);
        x.go(3);
        DUE.is("the latest told of the greatest day", x.buy(0, 1), 32);
        x.bargain(0, 3, 200, 33, 33);
        DUE.is("told anew", x.buy(0, 1), 33);
        x.bargain(0, 4, 200, 40, 40);
        DUE.is("one of tomorrow", x.buy(0, 1), 33);
    }

    /** 'without one a COPY costs 10' */
    private static void withoutABargainACopyCosts10() {
        VolumeHouse x = new VolumeHouse();
        x.title(1);
        x.title(1);
        x.title(1);
        x.bargain(1, 0, 200, 1, 1);
        DUE.is("the title ahead", x.buy(0, 1), 10);
        DUE.is("the title behind", x.buy(2, 20), 200);
        DUE.is("what it cost", x.copy(20, 3), 10);
        DUE.is("its own", x.buy(1, 1), 1);
    }

    /** 'a PRICE for each of the first n COPIES of a purchase, another one for those beyond' */
    private static void firstCopiesAndThoseBeyond() {
        for (int n = 5; n <= 7; n++) {
            VolumeHouse x = new VolumeHouse();
            x.title(3);
            x.bargain(0, 0, n, 100, 1);
            DUE.is("six copies, the first " + n, x.buy(0, 2), n == 5 ? 501 : 600);
            DUE.is("the fifth", x.copy(4, 3), 100);
            DUE.is("the sixth", x.copy(5, 3), n == 5 ? 1 : 100);
            DUE.is("another purchase begins anew", x.buy(0, 1), 300);
        }
        VolumeHouse y = new VolumeHouse();
        y.title(1);
        y.bargain(0, 0, 1, 100, 1);
        DUE.is("the first one alone", y.buy(0, 20), 119);
        DUE.is("the first", y.copy(0, 3), 100);
        DUE.is("the second", y.copy(1, 3), 1);
    }

    /** 'VOLUME by VOLUME (all of the first one, then of the second one, ..)' */
    private static void purchaseGoesVolumeByVolume() {
        VolumeHouse x = new VolumeHouse();
        x.title(1);
        x.title(4);
        x.buy(0, 1);
        x.buy(1, 3);
        x.buy(1, 1);
        for (int place = 0; place < 12; place++) {
            DUE.is("title", x.copy(1 + place, 1), 1);
            DUE.is("volume at place " + place, x.copy(1 + place, 2), place / 3);
        }
        for (int volume = 0; volume < 4; volume++) {
            DUE.is("of a single set", x.copy(13 + volume, 2), volume);
        }
        DUE.is("copies", x.count(2), 17);
    }

    /** 'NONE if there is no such TITLE' */
    private static void buyIsOfATitle() {
        int[] wrong = {-1, 3, 12, MIN, MAX};
        for (int t : wrong) {
            REFUSED.none("buy of title " + t, Houses::busy, x -> x.buy(t, 1));
        }
        VolumeHouse x = busy();
        DUE.is("buy of the first title", x.buy(0, 1), 14);
        DUE.is("buy of the last title", x.buy(2, 1), 40);
    }

    /** 'm sets (1 .. 20) are bought'; sets so many that their copies wrap around are refused, too. */
    private static void buyIsOf1To20Sets() {
        int[] wrong = {0, 21, -1, -20, 1 << 30, 1 << 31, (1 << 30) + 1, MIN, MAX};
        for (int m : wrong) {
            REFUSED.none("buy " + m, Houses::busy, x -> x.buy(2, m));
            REFUSED.none("buy " + m, Houses::busy, x -> x.buy(1, m));
        }
        VolumeHouse x = busy();
        DUE.is("buy 1", x.buy(1, 1), 10);
        DUE.is("buy 20", x.buy(1, 20), 200);
        DUE.is("copies", x.count(2), 14 + 21);
    }

    /** 'NONE if .. more than 200 COPIES would be' */
    private static void twoHundredCopiesCome() {
        REFUSED.none("four copies at 197", TradeEdgesTest::to197, x -> x.buy(0, 1));
        REFUSED.none("four copies of one volume at 197", TradeEdgesTest::to197, x -> x.buy(1, 4));
        REFUSED.none("eighty copies at 197", TradeEdgesTest::to197, x -> x.buy(0, 20));
        VolumeHouse x = new VolumeHouse();
        to197(x);
        DUE.is("three copies at 197", x.buy(1, 3), 30);
        DUE.is("copies", x.count(2), 200);
        DUE.is("one more", x.buy(1, 1), -1);
        DUE.is("the last copy", x.copy(199, 0), 0);
        DUE.is("none beyond", x.copy(200, 0), -1);
        DUE.is("sets", x.sets(1), 4);
        VolumeHouse y = new VolumeHouse();
        y.title(4);
        DUE.is("80", y.buy(0, 20), 800);
        DUE.is("160", y.buy(0, 20), 800);
        DUE.is("204", y.buy(0, 11), -1);
        DUE.is("200", y.buy(0, 10), 400);
        DUE.is("sets", y.sets(0), 50);
    }

    private static void to197(VolumeHouse x) {
        x.title(4);
        x.title(1);
        x.buy(0, 20);
        x.buy(0, 20);
        x.buy(0, 9);
        x.buy(1, 1);
    }

    /** COPIES 'have numbers as they come, at most 200', be they sold or lost later. */
    private static void soldAndLostCopiesMakeNoRoom() {
        VolumeHouse x = new VolumeHouse();
        to197(x);
        x.buy(1, 3);
        for (int c = 0; c < 100; c++) {
            DUE.yes("sold", x.sell(c, 1));
        }
        for (int c = 100; c < 200; c++) {
            DUE.is("lost", x.lose(c), 0);
        }
        DUE.is("buy one", x.buy(1, 1), -1);
        DUE.is("copies ever", x.count(2), 200);
        DUE.is("sold for", x.count(6), 100);
        DUE.is("lost", x.count(8), 100);
        DUE.is("no set", x.sets(0) + x.sets(1), 0);
    }

    /** 'for a PRICE (0 .. 1000)' */
    private static void sellIsFor0To1000() {
        int[] wrong = {-1, 1001, MIN, MAX};
        for (int price : wrong) {
            REFUSED.no("sell for " + price, Houses::busy, x -> x.sell(2, price));
        }
        VolumeHouse x = busy();
        DUE.yes("sell for 0", x.sell(2, 0));
        DUE.is("sold", x.copy(2, 0), 4);
        DUE.is("brought", x.count(6), 12);
        DUE.yes("sell for 1000", x.sell(7, 1000));
        DUE.is("sold", x.copy(7, 0), 4);
        DUE.is("brought", x.count(6), 1012);
    }

    /** 'false if it can't be': there is no such copy */
    private static void sellIsOfACopy() {
        int[] wrong = {-1, 14, 200, MIN, MAX};
        for (int c : wrong) {
            REFUSED.no("sell copy " + c, Houses::busy, x -> x.sell(c, 1));
        }
        VolumeHouse x = new VolumeHouse();
        Houses.full(x);
        DUE.yes("sell copy 0", x.sell(0, 1));
        DUE.yes("sell copy 199", x.sell(199, 1));
        DUE.no("sell copy 200", x.sell(200, 1));
        DUE.is("brought", x.count(6), 2);
    }

    /** 'A COPY on the SHELF is SOLD' */
    private static void sellIsFromTheShelfAlone() {
        int[] elsewhere = {0, 1, 3, 4, 5, 6, 13};
        for (int c : elsewhere) {
            REFUSED.no("sell copy " + c + " that isn't on the shelf", Houses::busy, x -> x.sell(c, 1));
        }
        VolumeHouse x = busy();
        x.go(2);
        DUE.is("the box back came", x.copy(1, 0), 0);
        DUE.yes("sell it on that day", x.sell(1, 5));
        DUE.no("sell it again", x.sell(1, 5));
        DUE.is("how often it was lent", x.copy(1, 7), 1);
    }

    private static VolumeHouse busy() {
        VolumeHouse x = new VolumeHouse();
        Houses.busy(x);
        return x;
    }
}
