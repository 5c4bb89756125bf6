import java.util.ArrayList;
import java.util.List;

/**
 * Calls that bring a new object to a state. A test that asks much of one state makes the object anew as often as it
 * needs, since nothing is promised of an object behind its 512th call.
 */
final class Scene {
    static final int MOST_CALLS = 512;

    final String title;
    private final List<Call> calls = new ArrayList<>();

    Scene(String title) {
        this.title = title;
    }

    Scene then(String name, int... arguments) {
        return then(new Call(name, arguments));
    }

    Scene then(Call call) {
        calls.add(call);
        return this;
    }

    int size() {
        return calls.size();
    }

    LogicSmith made() {
        LogicSmith s = new LogicSmith();
        for (Call call : calls) {
            call.on(s);
        }
        return s;
    }

    /** What the calls answer, one after another, behind this scene. */
    List<Integer> answers(List<Call> asked) {
        if (size() + asked.size() > MOST_CALLS) {
            throw new IllegalArgumentException(title + " has too many calls");
        }
        LogicSmith s = made();
        List<Integer> answers = new ArrayList<>();
        for (Call call : asked) {
            answers.add(call.on(s));
        }
        return answers;
    }
}
