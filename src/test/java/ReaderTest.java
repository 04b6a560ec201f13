/** Promises 6 to 9: reader, renew, wish, unwish. */
public final class ReaderTest {
    private static final Due DUE = new Due("ReaderTest");

    public static void main(String[] args) {
        readers();
        renewing();
        wishing();
        hundredWishes();
        unwishing();
        unwishedCopyInBox();
        wishAnewWhileTheOldCopyIsOut();
        DUE.end();
    }

    private static void readers() {
        VolumeHouse x = new VolumeHouse();
        DUE.is("class -1", x.reader(-1, 0, 0), -1);
        DUE.is("class 3", x.reader(3, 0, 0), -1);
        DUE.is("box -1", x.reader(0, -1, 0), -1);
        DUE.is("box 10", x.reader(0, 10, 0), -1);
        DUE.is("last -1", x.reader(0, 0, -1), -1);
        DUE.is("last 5001", x.reader(0, 0, 5001), -1);
        DUE.is("none came", x.count(3), 0);
        for (int r = 0; r < 20; r++) {
            DUE.is("reader number", x.reader(r % 3, r % 10, r % 2 * 5000), r);
        }
        DUE.is("a twenty-first reader", x.reader(0, 0, 0), -1);
        DUE.is("readers", x.count(3), 20);
        for (int r = 0; r < 20; r++) {
            DUE.is("class", x.told(r, 0), r % 3);
            DUE.is("last day", x.told(r, 5), r % 2 * 5000);
        }
    }

    private static void renewing() {
        VolumeHouse x = new VolumeHouse();
        x.title(1);
        x.buy(0, 1);
        x.reader(0, 0, 2);
        DUE.no("renew reader 1", x.renew(1, 5));
        DUE.no("renew reader -1", x.renew(-1, 5));
        DUE.no("renew to -1", x.renew(0, -1));
        DUE.no("renew to 5001", x.renew(0, 5001));
        DUE.is("last day stays", x.told(0, 5), 2);
        x.go(3);
        x.wish(0, 0);
        x.go(1);
        DUE.is("ended: no turn", x.told(0, 1), 0);
        DUE.yes("renew to 3", x.renew(0, 3));
        x.go(1);
        DUE.is("renewed to a day that is over: no turn", x.told(0, 1), 0);
        DUE.yes("renew to 5", x.renew(0, 5));
        DUE.is("last day", x.told(0, 5), 5);
        x.go(1);
        DUE.is("on the last day: a turn", x.told(0, 1), 1);
        DUE.yes("renew to 0", x.renew(0, 0));
        DUE.yes("renew to 5000", x.renew(0, 5000));
    }

    private static void wishing() {
        VolumeHouse x = new VolumeHouse();
        x.title(1);
        x.title(1);
        x.reader(0, 0, 5000);
        x.reader(0, 0, 0);
        DUE.is("wish of reader 2", x.wish(2, 0), -1);
        DUE.is("wish of reader -1", x.wish(-1, 0), -1);
        DUE.is("wish for title 2", x.wish(0, 2), -1);
        DUE.is("wish for title -1", x.wish(0, -1), -1);
        DUE.is("no wish came", x.count(4), 0);
        DUE.is("wish", x.wish(0, 0), 0);
        DUE.is("an open one for it", x.wish(0, 0), -1);
        DUE.is("for another title", x.wish(0, 1), 1);
        DUE.is("of another reader", x.wish(1, 0), 2);
        DUE.is("open wishes", x.told(0, 4), 2);
        DUE.is("open wishes of the other", x.told(1, 4), 1);
        x.buy(0, 1);
        x.go(1);
        DUE.is("open while in hand", x.wish(0, 0), -1);
        x.back(0);
        DUE.is("had", x.wished(0, 0), 1);
        DUE.is("wish again when had", x.wish(0, 0), 3);
        DUE.is("wishes ever", x.count(4), 4);
    }

    private static void hundredWishes() {
        VolumeHouse x = new VolumeHouse();
        x.title(1);
        x.reader(0, 0, 5000);
        for (int w = 0; w < 100; w++) {
            DUE.is("wish number", x.wish(0, 0), w);
            DUE.yes("taken back", x.unwish(w));
        }
        DUE.is("a hundred and first wish", x.wish(0, 0), -1);
        DUE.is("wishes ever", x.count(4), 100);
        DUE.is("open wishes", x.told(0, 4), 0);
    }

    private static void unwishing() {
        VolumeHouse x = new VolumeHouse();
        x.title(2);
        x.buy(0, 1);
        x.reader(1, 0, 5000);
        x.wish(0, 0);
        DUE.no("unwish -1", x.unwish(-1));
        DUE.no("unwish 1", x.unwish(1));
        x.go(1);
        DUE.yes("unwish with a copy in hand", x.unwish(0));
        DUE.no("unwish again", x.unwish(0));
        DUE.is("taken back", x.wished(0, 0), 2);
        DUE.is("the copy is told", x.wished(0, 2), 0);
        DUE.is("it stays with them", x.copy(0, 0), 1);
        DUE.is("in hand", x.told(0, 1), 1);
        DUE.is("no open wish", x.told(0, 4), 0);
        DUE.is("back", x.back(0), 0);
        DUE.is("counts as had", x.wished(0, 1), 1);
        DUE.is("no copy", x.wished(0, 2), -1);
        DUE.is("it waits no more", x.wished(0, 3), -1);
        x.go(1);
        DUE.is("and gets nothing", x.told(0, 1), 0);
        x.wish(0, 0);
        x.go(1);
        x.back(0);
        x.go(1);
        x.unwish(1);
        DUE.is("lost after it was taken back", x.lose(1), 10);
        DUE.is("all volumes had", x.wished(1, 1), 2);
        DUE.is("but taken back", x.wished(1, 0), 2);
        x.wish(0, 0);
        x.go(1);
        x.back(0);
        x.buy(0, 1);
        x.go(1);
        x.back(4);
        x.back(3);
        DUE.is("had", x.wished(2, 0), 1);
        DUE.no("unwish one that was had", x.unwish(2));
        DUE.is("had yet", x.wished(2, 0), 1);
    }

    private static void unwishedCopyInBox() {
        VolumeHouse x = new VolumeHouse();
        x.title(1);
        x.buy(0, 1);
        x.reader(0, 2, 5000);
        x.wish(0, 0);
        x.go(1);
        DUE.yes("unwish with a copy in a box", x.unwish(0));
        DUE.is("in a box yet", x.copy(0, 0), 2);
        x.go(2);
        DUE.is("it came", x.copy(0, 0), 1);
        DUE.is("the copy is told", x.wished(0, 2), 0);
        DUE.is("back", x.back(0), 0);
        DUE.is("counts as had", x.wished(0, 1), 1);
    }

    private static void wishAnewWhileTheOldCopyIsOut() {
        VolumeHouse x = new VolumeHouse();
        x.title(1);
        x.buy(0, 2);
        x.reader(1, 0, 5000);
        x.wish(0, 0);
        x.go(1);
        x.unwish(0);
        DUE.is("a new wish", x.wish(0, 0), 1);
        DUE.is("it waits, the other copy isn't for it", x.waiting(0, 0), 1);
        x.go(1);
        DUE.is("it gets another copy", x.wished(1, 2), 1);
        DUE.is("two in hand", x.told(0, 1), 2);
        x.back(0);
        DUE.is("the old wish had one", x.wished(0, 1), 1);
        DUE.is("the new one none", x.wished(1, 1), 0);
    }
}
