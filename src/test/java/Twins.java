import java.util.ArrayList;
import java.util.List;
import java.util.function.Supplier;

/**
 * Compares an object on which a call was made with its twin, made by the same calls, on which it was
 * not. What lies behind the answers (snapshots, history, text) is brought forth on both first, each
 * time on new ones, since an object is used for 512 calls at most.
 */
final class Twins {
    interface Call {
        int on(FoldedMenu x);
    }

    interface CallOf {
        int on(FoldedMenu x, int[] arguments);
    }

    private Twins() {
    }

    /** The call gives the answer, and changes nothing. */
    static void unchanged(String name, Supplier<FoldedMenu> maker, Call call, int answer) {
        for (int undone = 0; undone <= 6; undone++) {
            int times = undone;
            compare(name + ", undo " + times, maker, call, answer, x -> undo(x, times));
        }
        compare(name + ", restore(0)", maker, call, answer, x -> x.restore(0));
        compare(name + ", restore(1)", maker, call, answer, x -> x.restore(1));
        compare(name + ", load()", maker, call, answer, FoldedMenu::load);
    }

    /**
     * The argument at the place may have all values from low to high, the others being good: those at
     * both ends are no wrong ones, and those beyond are refused and change nothing.
     */
    static void range(String name, Supplier<FoldedMenu> maker, CallOf call, int[] good, int place, int low, int high) {
        for (int end : new int[] {low, high}) {
            int answer = call.on(maker.get(), with(good, place, end));
            Due.due(name + " " + end + " is refused", answer == FoldedMenu.INVALID_ARGUMENT ? 1 : 0, 0);
        }
        for (int beyond : beyond(low, high)) {
            int[] bad = with(good, place, beyond);
            unchanged(name + " " + beyond, maker, x -> call.on(x, bad), FoldedMenu.INVALID_ARGUMENT);
        }
    }

    /** Values just beyond a range and far beyond it, some of which wrap around in a shift or a cast. */
    static int[] beyond(int low, int high) {
        return new int[] {low - 1, high + 1, low - 32, high + 32, low - 256, high + 256, high + 65536,
            Integer.MIN_VALUE, Integer.MAX_VALUE};
    }

    static int[] with(int[] good, int place, int value) {
        int[] arguments = good.clone();
        arguments[place] = value;
        return arguments;
    }

    private static int undo(FoldedMenu x, int times) {
        int left = 0;
        for (int i = 0; i < times; i++) {
            left = x.undo();
        }
        return left;
    }

    private static void compare(String name, Supplier<FoldedMenu> maker, Call call, int answer, Call probe) {
        FoldedMenu one = maker.get();
        FoldedMenu twin = maker.get();
        Due.due(name, call.on(one), answer);
        Due.due(name + ", then", probe.on(one), probe.on(twin));
        List<Integer> answers = look(one);
        List<Integer> due = look(twin);
        Due.due(name + ", then answers", answers.size(), due.size());
        for (int i = 0; i < Math.min(answers.size(), due.size()); i++) {
            Due.due(name + ", then answer " + i, answers.get(i), due.get(i));
        }
    }

    private static List<Integer> look(FoldedMenu x) {
        List<Integer> answers = new ArrayList<>();
        for (int what = 0; what < 16; what++) {
            answers.add(x.count(what));
        }
        for (int what = 0; what < 10; what++) {
            answers.add(x.card(what));
        }
        int dishes = x.count(0);
        for (int dish = 0; dish < dishes; dish++) {
            for (int what = 0; what < 9; what++) {
                answers.add(x.dish(dish, what));
            }
        }
        return answers;
    }
}
