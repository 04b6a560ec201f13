import java.util.HashMap;
import java.util.List;
import java.util.Map;
import java.util.function.Consumer;
import java.util.function.Predicate;
import java.util.function.ToIntFunction;

/** 'What is refused changes nothing': a call after a run must be refused, and all is told as without it. */
final class Refused {
    private static final int NONE = -1;
    private static final int FALSE = 0;

    private final Due due;
    private final Map<Consumer<VolumeHouse>, List<Everything>> withoutIt = new HashMap<>();

    Refused(Due due) {
        this.due = due;
    }

    void none(String call, Consumer<VolumeHouse> run, ToIntFunction<VolumeHouse> refused) {
        is(call, run, refused, NONE);
    }

    void no(String call, Consumer<VolumeHouse> run, Predicate<VolumeHouse> refused) {
        is(call, run, x -> refused.test(x) ? 1 : 0, FALSE);
    }

    /** Whatever the calls answer, all is told as without them, now and later. */
    void changesNothing(String calls, Consumer<VolumeHouse> run, Consumer<VolumeHouse> asked) {
        List<Everything> before = withoutIt.computeIfAbsent(run, Refused::nowAndLater);
        List<Everything> after = nowAndLater(run.andThen(asked));
        for (int stage = 0; stage < before.size(); stage++) {
            String unlike = after.get(stage).unlike(before.get(stage));
            due.yes(calls + " changed at stage " + stage + ": " + unlike, unlike == null);
        }
    }

    private void is(String call, Consumer<VolumeHouse> run, ToIntFunction<VolumeHouse> refused, int want) {
        VolumeHouse house = new VolumeHouse();
        run.accept(house);
        due.is(call, refused.applyAsInt(house), want);
        changesNothing(call + ", refused,", run, x -> refused.applyAsInt(x));
    }

    /** Later calls bring to light what none tells at once: bargains, days of boxes, the next numbers. */
    private static List<Everything> nowAndLater(Consumer<VolumeHouse> run) {
        Consumer<VolumeHouse> next = run.andThen(Refused::nextDay);
        return List.of(Everything.after(run), Everything.after(next), Everything.after(next.andThen(Refused::nextMonth)));
    }

    private static void nextDay(VolumeHouse x) {
        buyAll(x);
        x.title(3);
        x.reader(2, 1, 5000);
        x.wish(0, 0);
        x.go(1);
        for (int c = 0; c < 10; c++) {
            x.back(c);
        }
    }

    private static void nextMonth(VolumeHouse x) {
        x.go(30);
        buyAll(x);
        x.wish(1, 0);
        x.go(2);
    }

    private static void buyAll(VolumeHouse x) {
        for (int t = 0; t < 12; t++) {
            x.buy(t, 1);
        }
    }
}
