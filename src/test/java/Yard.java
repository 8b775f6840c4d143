import java.util.ArrayList;
import java.util.List;

/**
 * An object under test that keeps every call made on it, so that another object can be brought to
 * the same state, and sees to it that no test rests on more than 512 calls.
 */
final class Yard {
    static final int MOST_CALLS = 512;

    /** One call; a boolean answers 1 or 0, and a call without an answer 0. */
    interface Step {
        long on(MountYard yard);
    }

    private final MountYard real = new MountYard();
    private final List<Step> steps = new ArrayList<>();

    /** A new object on which the same calls were made; those that throw throw there, too. */
    static Yard after(List<Step> history) {
        Yard made = new Yard();
        for (Step step : history) {
            try {
                made.call(step);
            } catch (RuntimeException e) {
                // It threw when it was made, and was looked at then.
            }
        }
        return made;
    }

    List<Step> history() {
        return new ArrayList<>(steps);
    }

    int calls() {
        return steps.size();
    }

    private long call(Step step) {
        steps.add(step);
        if (steps.size() == MOST_CALLS + 1) {
            Check.fail("a test made more than 512 calls on one object");
        }
        return step.on(real);
    }

    void feed(long w, int n) {
        call(yard -> {
            yard.feed(w, n);
            return 0;
        });
    }

    int serve() {
        return (int) call(MountYard::serve);
    }

    int size(boolean out) {
        return (int) call(yard -> yard.size(out));
    }

    int out(int i) {
        return (int) call(yard -> yard.out(i));
    }

    boolean drop(int n) {
        return call(yard -> yard.drop(n) ? 1 : 0) == 1;
    }

    int handles() {
        return (int) call(MountYard::handles);
    }

    int about(int file, int part) {
        return (int) call(yard -> yard.about(file, part));
    }

    int data(int file, int i) {
        return (int) call(yard -> yard.data(file, i));
    }

    int files() {
        return (int) call(MountYard::files);
    }

    boolean type(long w, int n) {
        return call(yard -> yard.type(w, n) ? 1 : 0) == 1;
    }

    void clear() {
        call(yard -> {
            yard.clear();
            return 0;
        });
    }

    int look(int process) {
        return (int) call(yard -> yard.look(process));
    }

    int member(int process, int k) {
        return (int) call(yard -> yard.member(process, k));
    }

    int bind(int process, int how) {
        return (int) call(yard -> yard.bind(process, how));
    }

    int unbind(int process) {
        return (int) call(yard -> yard.unbind(process));
    }

    boolean fork(int from, int to, boolean share) {
        return call(yard -> yard.fork(from, to, share) ? 1 : 0) == 1;
    }
}
