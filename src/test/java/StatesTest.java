import java.util.List;

/** The boundaries that the parts 'Snapshots', 'Undo' and 'Errors' of the document's terms name. */
public final class StatesTest {
    private static final int STATE = FoldedMenu.ILLEGAL_STATE;

    /** Each method that is called an action, as a call that succeeds on a rich object. */
    private static final List<Twins.Call> ACTIONS = List.of(
        x -> x.addDish(0, 1, 1, 1, 0, 1),
        x -> x.removeDish(0),
        x -> x.setDish(0, 2, 7),
        x -> x.setCard(1, 33),
        x -> x.setSide(3, 0),
        x -> x.arrange(),
        x -> x.choose(0, 0, 1),
        x -> x.take(0),
        x -> x.restore(1),
        x -> x.load());

    public static void main(String[] args) {
        Due.runAll(StatesTest.class);
    }

    private static void due(String call, long got, long want) {
        Due.due(call, got, want);
    }

    private static FoldedMenu withWidths(int from, int to) {
        FoldedMenu x = new FoldedMenu();
        for (int width = from; width <= to; width++) {
            x.setCard(1, width);
        }
        return x;
    }

    // ---- snapshots

    static void bothSlotsAreEmptyAtFirst() {
        FoldedMenu x = new FoldedMenu();
        due("snapshots", x.count(13), 0);
        due("slot 0", x.restore(0), STATE);
        due("slot 1", x.restore(1), STATE);
    }

    static void eachSlotIsCountedOnce() {
        for (int slot = 0; slot < 2; slot++) {
            FoldedMenu x = new FoldedMenu();
            x.take(slot);
            due("one", x.count(13), 1);
            x.take(slot);
            due("in place of it", x.count(13), 1);
            x.take(1 - slot);
            due("two", x.count(13), 2);
        }
    }

    static void aSnapshotOfAnEmptyCardIsOne() {
        FoldedMenu x = new FoldedMenu();
        due("printed dishes", x.take(1), 0);
        Menus.plain(x, 0, 10);
        due("slot 0 is empty", x.restore(0), STATE);
        due("printed dishes then", x.restore(1), 0);
        due("dishes", x.count(0), 0);
    }

    static void takeTellsThePrintedDishesAlone() {
        due("of four dishes", Menus.rich().take(0), 2);
        due("of twenty", Menus.full().take(0), 20);
        due("of none", new FoldedMenu().take(0), 0);
    }

    static void restoreTellsThePrintedDishesThen() {
        FoldedMenu x = Menus.full();
        x.take(0);
        x.setCard(2, 1);
        x.take(1);
        due("limit 5", x.restore(0), 20);
        due("limit 1", x.restore(1), 4);
    }

    static void aSnapshotKeepsAllOfEachDish() {
        FoldedMenu x = new FoldedMenu();
        x.addDish(0, 1, 1, 1, 0, 1);
        x.addDish(3, 99, 9999, 15, 255, 5);
        x.setDish(1, 6, 0);
        x.take(0);
        int[][] kept = {{0, 1, 1, 1, 0, 1, 1}, {3, 99, 9999, 15, 255, 5, 0}};
        for (int what = 0; what < 7; what++) {
            x.setDish(0, what, kept[1][what]);
            x.setDish(1, what, kept[0][what]);
        }
        x.restore(0);
        for (int dish = 0; dish < 2; dish++) {
            for (int what = 0; what < 7; what++) {
                due("dish(" + dish + ", " + what + ")", x.dish(dish, what), kept[dish][what]);
            }
        }
    }

    static void aSnapshotKeepsTwentyDishes() {
        FoldedMenu x = Menus.full();
        x.take(1);
        for (int i = 0; i < 20; i++) {
            x.removeDish(0);
        }
        due("none is left", x.count(0), 0);
        due("printed", x.restore(1), 20);
        for (int dish = 0; dish < 20; dish++) {
            due("price", x.dish(dish, 2), dish + 1);
        }
        due("no room", Menus.plain(x, 0, 1), FoldedMenu.CAPACITY_EXCEEDED);
    }

    static void aSnapshotKeepsTheCardAndTheSides() {
        FoldedMenu x = new FoldedMenu();
        int[] kept = {3, 60, 9, 2, 3, 255, 1, 0, 1, 0};
        int[] other = {0, 20, 1, 0, 0, 0, 0, 1, 0, 1};
        putCard(x, kept);
        x.take(0);
        putCard(x, other);
        x.take(1);
        x.restore(0);
        dueCard(x, kept);
        x.restore(1);
        dueCard(x, other);
    }

    private static void putCard(FoldedMenu x, int[] values) {
        for (int what = 0; what < 6; what++) {
            x.setCard(what, values[what]);
        }
        for (int course = 0; course < 4; course++) {
            x.setSide(course, values[6 + course]);
        }
    }

    private static void dueCard(FoldedMenu x, int[] values) {
        for (int what = 0; what < 10; what++) {
            due("card(" + what + ")", x.card(what), values[what]);
        }
    }

    static void aRestoredSnapshotStaysAsItIs() {
        FoldedMenu x = new FoldedMenu();
        Menus.plain(x, 0, 10);
        x.take(0);
        x.restore(0);
        x.setDish(0, 2, 99);
        x.setCard(1, 20);
        due("snapshots", x.count(13), 1);
        due("again", x.restore(0), 1);
        due("price", x.dish(0, 2), 10);
        due("width", x.card(1), 40);
    }

    static void aSnapshotReplacesTheOneThatIsThere() {
        FoldedMenu x = withWidths(21, 21);
        x.take(0);
        x.setCard(1, 22);
        x.take(0);
        x.setCard(1, 23);
        x.restore(0);
        due("width", x.card(1), 22);
    }

    static void textHistoryAndSnapshotsAreInNoSnapshot() {
        FoldedMenu x = new FoldedMenu();
        Menus.write(x, "ab");
        x.take(0);
        x.append('c');
        x.take(1);
        x.restore(0);
        due("text", x.count(15), 3);
        due("history", x.count(14), 3);
        due("snapshots", x.count(13), 2);
    }

    // ---- undo

    static void anEmptyHistoryHasNothingToUndo() {
        FoldedMenu x = new FoldedMenu();
        due("a new one", x.undo(), STATE);
        x.setCard(1, 30);
        due("one state", x.undo(), 0);
        due("none any more", x.undo(), STATE);
        due("width", x.card(1), 40);
    }

    static void fiveStatesAreKept() {
        FoldedMenu x = withWidths(21, 25);
        due("states", x.count(14), 5);
        for (int left = 4; left >= 0; left--) {
            due("undo", x.undo(), left);
            due("width", x.card(1), left == 0 ? 40 : 20 + left);
        }
        due("no more", x.undo(), STATE);
    }

    static void theSixthStateDropsTheOldest() {
        FoldedMenu x = withWidths(21, 26);
        due("states", x.count(14), 5);
        for (int left = 4; left >= 0; left--) {
            due("undo", x.undo(), left);
            due("width", x.card(1), 21 + left);
        }
        due("no more", x.undo(), STATE);
        due("the first width is gone", x.card(1), 21);
    }

    static void manyMoreStatesDropAllOlderOnes() {
        FoldedMenu x = withWidths(21, 59);
        for (int i = 0; i < 5; i++) {
            x.undo();
        }
        due("five ahead", x.card(1), 54);
        due("no more", x.undo(), STATE);
    }

    static void undoIsNoAction() {
        FoldedMenu x = withWidths(21, 23);
        due("undo", x.undo(), 2);
        due("width", x.card(1), 22);
        due("undo goes on back", x.undo(), 1);
        due("width", x.card(1), 21);
        x.setCard(1, 50);
        due("states", x.count(14), 2);
        due("undo of the new one", x.undo(), 1);
        due("width", x.card(1), 21);
    }

    static void eachActionRecordsOneState() {
        for (int action = 0; action < ACTIONS.size(); action++) {
            FoldedMenu x = new FoldedMenu();
            Menus.plain(x, 0, 10);
            x.take(1);
            due("action " + action + " is refused", ACTIONS.get(action).on(x) < 0 ? 1 : 0, 0);
            due("states after action " + action, x.count(14), 3);
            due("undo", x.undo(), 2);
        }
    }

    static void undoBringsBackWhatWasBeforeEachAction() {
        for (int action = 0; action < ACTIONS.size(); action++) {
            Twins.Call call = ACTIONS.get(action);
            // The text and the oldest state are not brought back, so both are made the same first.
            Twins.unchanged("action " + action, StatesTest::fourStates, x -> actAndUndo(x, call), 4);
        }
    }

    private static FoldedMenu fourStates() {
        FoldedMenu x = Menus.rich();
        x.undo();
        x.clearText();
        return x;
    }

    private static int actAndUndo(FoldedMenu x, Twins.Call call) {
        call.on(x);
        return x.undo();
    }

    static void actionsThatChangeNothingRecordAState() {
        List<Twins.Call> same = List.of(x -> x.setDish(0, 2, 10), x -> x.setCard(1, 40), x -> x.setSide(0, 0),
            x -> x.arrange(), x -> x.choose(1, 0, 4), x -> x.take(0), x -> x.restore(0), x -> x.load());
        for (int i = 0; i < same.size(); i++) {
            FoldedMenu x = new FoldedMenu();
            Menus.plain(x, 0, 10);
            x.arrange();
            x.take(0);
            same.get(i).on(x);
            due("states after call " + i, x.count(14), 4);
        }
    }

    static void callsThatAreNoActionsRecordNothing() {
        FoldedMenu x = new FoldedMenu();
        Menus.plain(x, 0, 10);
        x.append(32);
        x.clearText();
        x.append(32);
        for (int what = 0; what < 16; what++) {
            x.count(what);
        }
        x.card(0);
        x.dish(0, 8);
        x.line(0, 0, 0);
        x.account(0, 0);
        x.why(0);
        x.replacement(0);
        x.evenSeasons();
        x.printedFor(0);
        x.bestSides(0);
        x.bestSet(0, 3, 2, 2);
        due("states", x.count(14), 1);
        due("undo", x.undo(), 0);
        due("dishes", x.count(0), 0);
    }

    static void undoEmptiesASlotAgain() {
        for (int slot = 0; slot < 2; slot++) {
            FoldedMenu x = new FoldedMenu();
            x.take(slot);
            due("undo", x.undo(), 0);
            due("snapshots", x.count(13), 0);
            due("restore", x.restore(slot), STATE);
        }
    }

    static void undoBringsBackTheSnapshotThatWasReplaced() {
        FoldedMenu x = withWidths(21, 21);
        x.take(1);
        x.setCard(1, 22);
        x.take(1);
        due("undo", x.undo(), 3);
        due("snapshots", x.count(13), 1);
        x.restore(1);
        due("width", x.card(1), 21);
    }

    static void undoOfRestoreKeepsTheSnapshot() {
        FoldedMenu x = withWidths(21, 21);
        x.take(0);
        x.setCard(1, 22);
        x.restore(0);
        due("undo", x.undo(), 3);
        due("width", x.card(1), 22);
        due("snapshots", x.count(13), 1);
    }

    static void theTextBelongsToNoState() {
        FoldedMenu x = new FoldedMenu();
        x.setCard(1, 30);
        Menus.write(x, "0:1$1;");
        due("undo", x.undo(), 0);
        due("the text stays", x.count(15), 6);
        due("load", x.load(), 1);
        due("undo of load", x.undo(), 0);
        due("the text stays empty", x.count(15), 0);
        due("no dish", x.count(0), 0);
    }

    static void undoOfTheRemovalFromAFullMenu() {
        FoldedMenu x = Menus.full();
        x.removeDish(0);
        due("undo", x.undo(), 4);
        for (int dish = 0; dish < 20; dish++) {
            due("price", x.dish(dish, 2), dish + 1);
        }
    }

    // ---- errors, and the last call

    static void refusedCallsRecordNothing() {
        FoldedMenu x = withWidths(21, 21);
        x.addDish(4, 1, 1, 1, 0, 1);
        x.removeDish(0);
        x.setDish(0, 0, 0);
        x.setCard(1, 61);
        x.setSide(0, 2);
        x.choose(0, 3, 4);
        x.choose(2, 0, 4);
        x.take(2);
        x.restore(0);
        x.restore(2);
        Menus.write(x, "x");
        x.load();
        due("states", x.count(14), 1);
        due("undo", x.undo(), 0);
        due("width", x.card(1), 40);
    }

    static void allOf512CallsAreAnswered() {
        FoldedMenu x = new FoldedMenu();
        for (int call = 1; call <= 510; call++) {
            due("call " + call, x.setCard(1, 20 + call % 41), call == 1 ? 40 : 20 + (call - 1) % 41);
        }
        due("call 511", x.undo(), 4);
        due("call 512", x.card(1), 20 + 509 % 41);
    }

    static void allOf512CharactersAreCounted() {
        FoldedMenu x = new FoldedMenu();
        for (int call = 1; call <= 512; call++) {
            due("call " + call, x.append(255), call <= 140 ? call : FoldedMenu.CAPACITY_EXCEEDED);
        }
    }
}
