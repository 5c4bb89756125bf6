import java.util.ArrayList;
import java.util.List;

/** The whole of a state, by questions (places, gates, outputs, sum, steps), to see whether a call has changed it. */
final class Reading {
    private final Scene scene;
    private final int functions;
    private final int nets;
    private final List<List<Call>> rounds = new ArrayList<>();
    private final List<List<Integer>> due = new ArrayList<>();

    Reading(Scene scene) {
        this.scene = scene;
        functions = scene.made().count(0);
        nets = scene.made().count(1);
        List<Call> all = new ArrayList<>();
        askCounts(all);
        for (int f = 0; f < functions; f++) {
            askFunction(all, f);
        }
        for (int net = 0; net < nets; net++) {
            askNet(all, net);
        }
        int room = Scene.MOST_CALLS - scene.size() - 1;
        for (int from = 0; from < all.size(); from += room) {
            rounds.add(all.subList(from, Math.min(all.size(), from + room)));
        }
        tryAll();
        for (List<Call> round : rounds) {
            due.add(scene.answers(round));
        }
    }

    /** The first question that is answered otherwise if a call came ahead of it, or nothing. */
    String changedBy(Call call) {
        for (int i = 0; i < rounds.size(); i++) {
            List<Call> asked = new ArrayList<>();
            asked.add(call);
            asked.addAll(rounds.get(i));
            List<Integer> got = scene.answers(asked);
            for (int k = 1; k < got.size(); k++) {
                if (!got.get(k).equals(due.get(i).get(k - 1))) {
                    return asked.get(k) + " answers " + got.get(k) + ", it was " + due.get(i).get(k - 1);
                }
            }
        }
        return "";
    }

    private void askCounts(List<Call> all) {
        LogicSmith s = scene.made();
        for (int what = 0; what < 3; what++) {
            all.add(new Call("count", what));
        }
        all.add(new Call("letters"));
        for (int k = 0; k == 0 || s.summed(k - 1) != LogicSmith.BAD; k++) {
            all.add(new Call("summed", k));
        }
        for (int i = 0; i <= s.count(2); i++) {
            for (int what = 0; what < 3; what++) {
                all.add(new Call("step", i, what));
            }
        }
    }

    private int rowsOf(int f) {
        LogicSmith s = scene.made();
        return s.places(f, 0) + s.places(f, 1) + s.places(f, 2);
    }

    private void askFunction(List<Call> all, int f) {
        for (int row = 0; row < rowsOf(f); row++) {
            all.add(new Call("at", f, row));
        }
        for (int what = 0; what < 4; what++) {
            all.add(new Call("places", f, what));
        }
        all.add(new Call("primes", f));
        all.add(new Call("prime", f, 0));
    }

    private int gatesOf(int net) {
        LogicSmith s = scene.made();
        int g = 0;
        while (s.told(net, g, 0) != LogicSmith.BAD) {
            g++;
        }
        return g;
    }

    private void askNet(List<Call> all, int net) {
        for (int i = 0; i < 6; i++) {
            all.add(new Call("output", net, i));
        }
        all.add(new Call("weight", net));
        for (int g = 0; g < gatesOf(net); g++) {
            for (int what = 0; what < 5; what++) {
                all.add(new Call("told", net, g, what));
            }
            all.add(new Call("comes", net, g));
        }
    }

    /** What can only be seen by a change: how many places a sheet has, what is brought back, what is made next. */
    private void tryAll() {
        List<Call> last = new ArrayList<>();
        for (int f = 0; f < functions; f++) {
            int rows = rowsOf(f);
            for (int sheet = 0; sheet < Math.max(1, rows / 8); sheet++) {
                last.add(new Call("tear", f, sheet, Math.min(8, rows)));
            }
            last.add(new Call("places", f, 1));
            last.add(new Call("places", f, 2));
        }
        for (int i = 0; i < 2; i++) {
            last.add(new Call("function", 3));
            last.add(new Call("net", 3));
            last.add(new Call("remove", i));
        }
        rounds.add(last);
        for (int net = 0; net < nets; net++) {
            List<Call> back = new ArrayList<>();
            back.add(new Call("back", net));
            askNet(back, net);
            rounds.add(back.subList(0, Math.min(back.size(), Scene.MOST_CALLS - scene.size() - 1)));
        }
    }
}
