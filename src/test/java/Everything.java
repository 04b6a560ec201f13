import java.util.ArrayList;
import java.util.List;
import java.util.function.Consumer;
import java.util.function.ToIntFunction;

/**
 * All that a house tells after a run of calls. It is asked of several houses of that same run, since an
 * object is used for 512 calls at most.
 */
final class Everything {
    private static final int ASKED_OF_ONE_HOUSE = 200;
    private static final int[][] PLANS = {{0, 0}, {1, 0}, {10, 35}, {1000, 0}, {1000, 1000}};

    private final List<String> names = new ArrayList<>();
    private final List<ToIntFunction<VolumeHouse>> questions = new ArrayList<>();
    private final List<Integer> answers = new ArrayList<>();

    private Everything(VolumeHouse x) {
        askCounts();
        askCopies(x.count(2));
        askReaders(x.count(3));
        askWishes(x.count(4));
        askTitles(x.count(1));
        askPlans();
    }

    static Everything after(Consumer<VolumeHouse> run) {
        Everything all = new Everything(house(run));
        VolumeHouse x = null;
        for (int q = 0; q < all.questions.size(); q++) {
            x = q % ASKED_OF_ONE_HOUSE == 0 ? house(run) : x;
            all.answers.add(all.questions.get(q).applyAsInt(x));
        }
        return all;
    }

    /** The first thing that is told otherwise, or null. */
    String unlike(Everything other) {
        if (!names.equals(other.names)) {
            return "how many there are";
        }
        for (int q = 0; q < names.size(); q++) {
            if (!answers.get(q).equals(other.answers.get(q))) {
                return names.get(q) + ", " + other.answers.get(q) + " to " + answers.get(q);
            }
        }
        return null;
    }

    private static VolumeHouse house(Consumer<VolumeHouse> run) {
        VolumeHouse x = new VolumeHouse();
        run.accept(x);
        return x;
    }

    private void ask(String name, ToIntFunction<VolumeHouse> question) {
        names.add(name);
        questions.add(question);
    }

    private void askCounts() {
        for (int i = 0; i <= 8; i++) {
            int what = i;
            ask("count(" + what + ")", x -> x.count(what));
        }
    }

    private void askCopies(int copies) {
        for (int i = 0; i < copies * 8; i++) {
            int c = i / 8;
            int what = i % 8;
            ask("copy(" + c + ", " + what + ")", x -> x.copy(c, what));
        }
    }

    private void askReaders(int readers) {
        for (int i = 0; i < readers * 6; i++) {
            int r = i / 6;
            int what = i % 6;
            ask("told(" + r + ", " + what + ")", x -> x.told(r, what));
        }
    }

    private void askWishes(int wishes) {
        for (int i = 0; i < wishes * 4; i++) {
            int w = i / 4;
            int what = i % 4;
            ask("wished(" + w + ", " + what + ")", x -> x.wished(w, what));
        }
    }

    private void askTitles(int titles) {
        for (int i = 0; i < titles; i++) {
            int t = i;
            ask("sets(" + t + ")", x -> x.sets(t));
            for (int v = 0; v <= 4; v++) {
                int volume = v;
                ask("waiting(" + t + ", " + volume + ")", x -> x.waiting(t, volume));
            }
        }
    }

    private void askPlans() {
        for (int[] plan : PLANS) {
            int v = plan[0];
            int c = plan[1];
            ask("best(" + v + ", " + c + ")", x -> x.best(v, c));
            ask("gain(" + v + ", " + c + ")", x -> x.gain(v, c));
            for (int k = 0; k < 4; k++) {
                int i = k;
                ask("kept(" + v + ", " + c + ", " + i + ")", x -> x.kept(v, c, i));
            }
        }
    }
}
