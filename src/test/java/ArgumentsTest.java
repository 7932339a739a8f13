import java.util.function.Supplier;

/**
 * Promises 2 to 25: for each argument the ends of its range and the values beyond; for each refused
 * call what it returns, and that it changes nothing; and which of several errors is returned.
 */
public final class ArgumentsTest {
    private static final int INVALID = FoldedMenu.INVALID_ARGUMENT;
    private static final int STATE = FoldedMenu.ILLEGAL_STATE;
    private static final int FULL = FoldedMenu.CAPACITY_EXCEEDED;
    private static final int NONE = FoldedMenu.NONE;
    private static final int MOST = Integer.MAX_VALUE;

    private static final int[] DISH_LOW = {0, 1, 1, 1, 0, 1, 0};
    private static final int[] DISH_HIGH = {3, 99, 9999, 15, 255, 5, 1};
    private static final int[] CARD_LOW = {0, 20, 1, 0, 0, 0};
    private static final int[] CARD_HIGH = {3, 60, 9, 2, 3, 255};
    private static final int[] CARD_FIRST = {0, 40, 5, 1, 2, 0};

    public static void main(String[] args) {
        Due.runAll(ArgumentsTest.class);
    }

    private static void due(String call, long got, long want) {
        Due.due(call, got, want);
    }

    private static int add(FoldedMenu x, int[] a) {
        return x.addDish(a[0], a[1], a[2], a[3], a[4], a[5]);
    }

    private static void unchanged(String name, Supplier<FoldedMenu> maker, Twins.Call call, int answer) {
        Twins.unchanged(name, maker, call, answer);
    }

    // ---- promise 2

    private static void addDishRange(int what) {
        int[] good = {1, 10, 10, 15, 0, 2};
        Twins.range("addDish, argument " + what, Menus::rich, ArgumentsTest::add, good, what, DISH_LOW[what],
            DISH_HIGH[what]);
        for (int end : new int[] {DISH_LOW[what], DISH_HIGH[what]}) {
            FoldedMenu x = new FoldedMenu();
            due("addDish", add(x, Twins.with(good, what, end)), 0);
            due("it has " + end, x.dish(0, what), end);
        }
    }

    static void addDishCourse() {
        addDishRange(0);
    }

    static void addDishLetters() {
        addDishRange(1);
    }

    static void addDishPrice() {
        addDishRange(2);
    }

    static void addDishSeasons() {
        addDishRange(3);
    }

    static void addDishAllergens() {
        addDishRange(4);
    }

    static void addDishWeight() {
        addDishRange(5);
    }

    static void addDishTwentyTimesAndNoMore() {
        FoldedMenu x = new FoldedMenu();
        for (int dish = 0; dish < 20; dish++) {
            due("addDish", Menus.plain(x, dish % 4, 10), dish);
        }
        due("the 21st", Menus.plain(x, 0, 10), FULL);
        due("dishes", x.count(0), 20);
        unchanged("the 21st", Menus::full, y -> Menus.plain(y, 0, 10), FULL);
    }

    static void addDishWrongArgumentGoesAheadOfNoRoom() {
        for (int what = 0; what < 6; what++) {
            int[] bad = Twins.with(new int[] {1, 10, 10, 15, 0, 2}, what, DISH_HIGH[what] + 1);
            unchanged("argument " + what, Menus::full, x -> add(x, bad), INVALID);
        }
    }

    // ---- promise 3

    static void removeDishRange() {
        Twins.range("removeDish", Menus::rich, (x, a) -> x.removeDish(a[0]), new int[1], 0, 0, 3);
        Twins.range("removeDish of 20", Menus::full, (x, a) -> x.removeDish(a[0]), new int[1], 0, 0, 19);
    }

    static void removeDishWithoutDishes() {
        for (int dish : new int[] {-1, 0, 1}) {
            unchanged("removeDish " + dish, FoldedMenu::new, x -> x.removeDish(dish), INVALID);
        }
    }

    static void removeDishDownToNone() {
        FoldedMenu x = Menus.full();
        for (int left = 19; left >= 0; left--) {
            due("there is no dish " + (left + 1), x.removeDish(left + 1), INVALID);
            due("left", x.removeDish(0), left);
        }
        due("none is left", x.removeDish(0), INVALID);
    }

    // ---- promise 4

    static void setDishDish() {
        Twins.range("setDish, dish", Menus::rich, (x, a) -> x.setDish(a[0], 5, 3), new int[1], 0, 0, 3);
        unchanged("setDish without dishes", FoldedMenu::new, x -> x.setDish(0, 5, 3), INVALID);
    }

    static void setDishWhat() {
        Twins.range("setDish, what", Menus::rich, (x, a) -> x.setDish(0, a[0], 1), new int[1], 0, 0, 6);
    }

    private static void setDishRange(int what) {
        int low = DISH_LOW[what];
        int high = DISH_HIGH[what];
        Twins.range("setDish, value of " + what, Menus::rich, (x, a) -> x.setDish(1, what, a[0]), new int[1], 0, low, high);
        FoldedMenu x = Menus.rich();
        int first = x.dish(1, what);
        due("the lowest", x.setDish(1, what, low), first);
        due("it has that", x.dish(1, what), low);
        due("the highest", x.setDish(1, what, high), low);
        due("it has that", x.dish(1, what), high);
        due("the same again", x.setDish(1, what, high), high);
    }

    static void setDishCourse() {
        setDishRange(0);
    }

    static void setDishLetters() {
        setDishRange(1);
    }

    static void setDishPrice() {
        setDishRange(2);
    }

    static void setDishSeasons() {
        setDishRange(3);
    }

    static void setDishAllergens() {
        setDishRange(4);
    }

    static void setDishWeight() {
        setDishRange(5);
    }

    static void setDishOffer() {
        setDishRange(6);
    }

    // ---- promise 5

    static void setCardWhat() {
        // Values that some of 0 to 5 may have, so that only what they are for is wrong.
        for (int value : new int[] {0, 1, 2, 20, 255}) {
            for (int what : Twins.beyond(0, 5)) {
                unchanged("setCard " + what, Menus::rich, x -> x.setCard(what, value), INVALID);
            }
        }
    }

    private static void setCardRange(int what) {
        int low = CARD_LOW[what];
        int high = CARD_HIGH[what];
        Twins.range("setCard, value of " + what, Menus::rich, (x, a) -> x.setCard(what, a[0]), new int[1], 0, low, high);
        FoldedMenu x = new FoldedMenu();
        due("the lowest", x.setCard(what, low), CARD_FIRST[what]);
        due("it has that", x.card(what), low);
        due("the highest", x.setCard(what, high), low);
        due("it has that", x.card(what), high);
        due("the same again", x.setCard(what, high), high);
    }

    static void setCardSeason() {
        setCardRange(0);
    }

    static void setCardWidth() {
        setCardRange(1);
    }

    static void setCardLimit() {
        setCardRange(2);
    }

    static void setCardSpacing() {
        setCardRange(3);
    }

    static void setCardSlack() {
        setCardRange(4);
    }

    static void setCardGuest() {
        setCardRange(5);
    }

    // ---- promise 6

    static void setSideCourse() {
        Twins.range("setSide, course", Menus::rich, (x, a) -> x.setSide(a[0], 1), new int[1], 0, 0, 3);
    }

    static void setSideSide() {
        Twins.range("setSide, side", Menus::rich, (x, a) -> x.setSide(3, a[0]), new int[1], 0, 0, 1);
    }

    static void setSideOfEachCourse() {
        int[] first = {0, 0, 1, 1};
        for (int course = 0; course < 4; course++) {
            FoldedMenu x = new FoldedMenu();
            due("the other side", x.setSide(course, 1 - first[course]), first[course]);
            for (int other = 0; other < 4; other++) {
                due("side of " + other, x.card(6 + other), other == course ? 1 - first[other] : first[other]);
            }
            due("the same again", x.setSide(course, 1 - first[course]), 1 - first[course]);
            due("back", x.setSide(course, first[course]), 1 - first[course]);
        }
    }

    // ---- promise 8

    private static void chooseRange(int place, int low, int high) {
        Twins.range("choose, argument " + place, Menus::rich, (x, a) -> x.choose(a[0], a[1], a[2]), new int[] {0, 3, 2},
            place, low, high);
    }

    static void chooseSide() {
        chooseRange(0, 0, 1);
    }

    static void chooseLines() {
        chooseRange(1, 0, 150);
    }

    static void chooseColumn() {
        chooseRange(2, 1, 4);
    }

    static void chooseWithoutSuchASet() {
        for (int lines : new int[] {1, 2, 4, 149, 150}) {
            unchanged("choose of " + lines, Menus::rich, x -> x.choose(0, lines, 2), STATE);
        }
        unchanged("choose without dishes", FoldedMenu::new, x -> x.choose(1, 3, 4), STATE);
    }

    static void chooseWrongArgumentGoesAheadOfNoSet() {
        int[][] bad = {{2, 1, 4}, {-1, 1, 4}, {0, 151, 4}, {0, 1, 0}, {0, 1, 5}};
        for (int[] a : bad) {
            unchanged("choose", FoldedMenu::new, x -> x.choose(a[0], a[1], a[2]), INVALID);
        }
    }

    // ---- promises 9 to 11

    static void takeSlot() {
        Twins.range("take", Menus::rich, (x, a) -> x.take(a[0]), new int[1], 0, 0, 1);
        Twins.range("take on a new one", FoldedMenu::new, (x, a) -> x.take(a[0]), new int[1], 0, 0, 1);
    }

    static void restoreSlot() {
        Twins.range("restore", Menus::rich, (x, a) -> x.restore(a[0]), new int[1], 0, 0, 1);
    }

    static void restoreOfAnEmptySlot() {
        for (int slot = 0; slot < 2; slot++) {
            int empty = slot;
            unchanged("both are empty", FoldedMenu::new, x -> x.restore(empty), STATE);
            unchanged("the other one isn't", () -> taken(1 - empty), x -> x.restore(empty), STATE);
            due("the other one", taken(1 - empty).restore(1 - empty), 1);
        }
    }

    static void restoreWrongSlotGoesAheadOfAnEmptyOne() {
        for (int slot : Twins.beyond(0, 1)) {
            unchanged("restore " + slot, FoldedMenu::new, x -> x.restore(slot), INVALID);
        }
    }

    private static FoldedMenu taken(int slot) {
        FoldedMenu x = new FoldedMenu();
        Menus.plain(x, 0, 10);
        x.take(slot);
        return x;
    }

    static void undoOfAnEmptyHistory() {
        unchanged("undo of a new one", FoldedMenu::new, FoldedMenu::undo, STATE);
        unchanged("undo when all is undone", ArgumentsTest::undone, FoldedMenu::undo, STATE);
    }

    private static FoldedMenu undone() {
        FoldedMenu x = Menus.rich();
        for (int i = 0; i < 5; i++) {
            x.undo();
        }
        return x;
    }

    // ---- promises 12 to 14

    static void appendCharacter() {
        Twins.range("append", Menus::rich, (x, a) -> x.append(a[0]), new int[1], 0, 1, 255);
    }

    static void append140CharactersAndNoMore() {
        FoldedMenu x = new FoldedMenu();
        for (int length = 1; length <= 140; length++) {
            due("append", x.append(32), length);
        }
        due("the 141st", x.append(32), FULL);
        due("length", x.count(15), 140);
        unchanged("the 141st", Menus::fullText, y -> y.append(48), FULL);
    }

    static void appendWrongCharacterGoesAheadOfNoRoom() {
        for (int character : Twins.beyond(1, 255)) {
            unchanged("append " + character, Menus::fullText, x -> x.append(character), INVALID);
        }
    }

    static void clearTextTellsThePreviousLength() {
        for (int length : new int[] {0, 1, 139, 140}) {
            FoldedMenu x = new FoldedMenu();
            Menus.write(x, " ".repeat(length));
            due("clearText", x.clearText(), length);
            due("length then", x.count(15), 0);
            due("clearText again", x.clearText(), 0);
            due("append then", x.append(1), 1);
        }
    }

    static void loadOfAnErrorChangesNothing() {
        String[] texts = {"x", "0:1$1;1:1", "0:1$1;1:1$1+aa;", " ".repeat(139) + "0"};
        int[] positions = {0, 9, 13, 140};
        for (int i = 0; i < texts.length; i++) {
            String text = texts[i];
            unchanged("load " + text, () -> withText(text), FoldedMenu::load, -1000 - positions[i]);
        }
    }

    private static FoldedMenu withText(String text) {
        FoldedMenu x = Menus.rich();
        Menus.write(x, text);
        return x;
    }

    // ---- promises 15 to 19

    static void countWhat() {
        Twins.range("count", Menus::rich, (x, a) -> x.count(a[0]), new int[1], 0, 0, 15);
    }

    static void cardWhat() {
        Twins.range("card", Menus::rich, (x, a) -> x.card(a[0]), new int[1], 0, 0, 9);
    }

    static void dishDish() {
        for (int what = 0; what < 9; what++) {
            int asked = what;
            Twins.range("dish", Menus::rich, (x, a) -> x.dish(a[0], asked), new int[1], 0, 0, 3);
            due("dish 19 of 20", Menus.full().dish(19, what) == INVALID ? 1 : 0, 0);
            due("dish 20 of 20", Menus.full().dish(20, what), INVALID);
            due("dish 0 of none", new FoldedMenu().dish(0, what), INVALID);
        }
    }

    static void dishWhat() {
        Twins.range("dish, what", Menus::rich, (x, a) -> x.dish(0, a[0]), new int[1], 0, 0, 8);
    }

    static void dishThatIsNotPrinted() {
        for (int dish = 2; dish < 4; dish++) {
            int asked = dish;
            unchanged("its lines", Menus::rich, x -> x.dish(asked, 7), 0);
            unchanged("its first line", Menus::rich, x -> x.dish(asked, 8), NONE);
        }
        FoldedMenu x = Menus.rich();
        x.setCard(2, 1);
        x.setDish(2, 6, 1);
        due("its lines behind the limit", x.dish(2, 7), 0);
        due("its first line behind the limit", x.dish(2, 8), NONE);
    }

    static void dishWrongWhatGoesAheadOfNone() {
        for (int what : Twins.beyond(0, 8)) {
            due("dish(2, " + what + ")", Menus.rich().dish(2, what), INVALID);
        }
        due("no dish has no first line", Menus.rich().dish(4, 8), INVALID);
    }

    static void lineSide() {
        Twins.range("line, side", Menus::rich, (x, a) -> x.line(a[0], 0, 0), new int[1], 0, 0, 1);
    }

    static void lineWhat() {
        Twins.range("line, what", Menus::rich, (x, a) -> x.line(0, 0, a[0]), new int[1], 0, 0, 5);
    }

    static void lineIndexIsNegative() {
        for (int index : new int[] {-1, -2, -99, Integer.MIN_VALUE}) {
            for (int what = 0; what < 6; what++) {
                int asked = what;
                unchanged("line " + index, Menus::rich, x -> x.line(1, index, asked), INVALID);
            }
        }
    }

    static void lineBehindTheLastOneIsNone() {
        FoldedMenu x = Menus.rich();
        for (int side = 0; side < 2; side++) {
            int lines = x.count(2 + side);
            for (int what = 0; what < 6; what++) {
                due("the last line", x.line(side, lines - 1, what) == NONE && what != 1 ? 1 : 0, 0);
                due("one behind it", x.line(side, lines, what), NONE);
                due("far behind it", x.line(side, MOST, what), NONE);
            }
        }
        unchanged("one behind it", Menus::rich, y -> y.line(0, y.count(2), 0), NONE);
        due("a side without lines", new FoldedMenu().line(1, 0, 0), NONE);
    }

    static void lineWrongArgumentGoesAheadOfNone() {
        for (int beyond : new int[] {-1, 2, MOST}) {
            due("side", Menus.rich().line(beyond, 999, 0), INVALID);
        }
        for (int beyond : new int[] {-1, 6, MOST}) {
            due("what", Menus.rich().line(0, 999, beyond), INVALID);
        }
    }

    static void accountSide() {
        Twins.range("account, side", Menus::rich, (x, a) -> x.account(a[0], 0), new int[1], 0, 0, 1);
    }

    static void accountWhat() {
        Twins.range("account, what", Menus::rich, (x, a) -> x.account(0, a[0]), new int[1], 0, 0, 4);
    }

    // ---- promises 20 to 25

    static void whyDish() {
        Twins.range("why", Menus::rich, (x, a) -> x.why(a[0]), new int[1], 0, 0, 3);
        due("of none", new FoldedMenu().why(0), INVALID);
        due("19 of 20", Menus.full().why(19), 0);
        due("20 of 20", Menus.full().why(20), INVALID);
    }

    static void whyTellsTheFirstReason() {
        FoldedMenu x = new FoldedMenu();
        x.setCard(2, 1);
        Menus.plain(x, 0, 10);
        // Dish 1 has all four reasons; they are taken away one by one.
        x.addDish(0, 10, 10, 2, 4, 2);
        x.setDish(1, 6, 0);
        x.setCard(5, 4);
        due("not on offer", x.why(1), 1);
        x.setDish(1, 6, 1);
        due("season", x.why(1), 2);
        x.setDish(1, 3, 3);
        due("guest", x.why(1), 3);
        x.setDish(1, 4, 8);
        due("limit", x.why(1), 4);
        x.setCard(2, 2);
        due("printed", x.why(1), 0);
    }

    static void replacementDish() {
        Twins.range("replacement", Menus::rich, (x, a) -> x.replacement(a[0]), new int[1], 0, 0, 3);
        due("of none", new FoldedMenu().replacement(0), INVALID);
        due("19 of 20", Menus.full().replacement(19), NONE);
        due("20 of 20", Menus.full().replacement(20), INVALID);
    }

    static void replacementOfADishThatIsNotPrinted() {
        unchanged("not on offer", Menus::rich, x -> x.replacement(2), STATE);
        unchanged("out of season", Menus::rich, x -> x.replacement(3), STATE);
        FoldedMenu x = Menus.rich();
        x.setCard(5, 128);
        due("for the guest", x.replacement(1), STATE);
        x.setCard(5, 0);
        x.setDish(2, 6, 1);
        x.setCard(2, 1);
        due("behind the limit", x.replacement(2), STATE);
        due("of the one ahead of it", x.replacement(1), 2);
    }

    static void replacementWithoutOne() {
        unchanged("replacement", Menus::rich, x -> x.replacement(0), NONE);
        FoldedMenu x = Menus.full();
        for (int dish = 0; dish < 20; dish++) {
            due("just as many as the limit", x.replacement(dish), NONE);
        }
    }

    static void replacementIsTheNextOneOfTheCourse() {
        FoldedMenu x = Menus.full();
        x.setCard(2, 4);
        for (int dish = 0; dish < 16; dish++) {
            due("the fifth one of course " + dish % 4, x.replacement(dish), 16 + dish % 4);
        }
        x.setCard(2, 3);
        due("the fourth one, not the fifth", x.replacement(0), 12);
        x.setDish(12, 6, 0);
        due("the fifth one", x.replacement(0), 16);
        unchanged("it stays on offer", Menus::full, y -> y.replacement(0), NONE);
    }

    static void evenSeasonsOfAllAndNone() {
        unchanged("no dishes", FoldedMenu::new, FoldedMenu::evenSeasons, 15);
        FoldedMenu x = new FoldedMenu();
        Menus.plain(x, 0, 10);
        due("none", x.evenSeasons(), 0);
        for (int season = 0; season < 4; season++) {
            x.setDish(0, 3, 15 - (1 << season));
            due("season " + season + " alone", x.evenSeasons(), 1 << season);
            x.setDish(0, 3, 1 << season);
            due("all but " + season, x.evenSeasons(), 15 - (1 << season));
        }
    }

    static void printedForGuest() {
        Twins.range("printedFor", Menus::rich, (x, a) -> x.printedFor(a[0]), new int[1], 0, 0, 255);
        unchanged("for a guest without allergens", Menus::rich, x -> x.printedFor(0), 2);
        unchanged("for a guest with all", Menus::rich, x -> x.printedFor(255), 0);
        due("of none", new FoldedMenu().printedFor(0), 0);
    }

    static void bestSidesWhat() {
        Twins.range("bestSides", Menus::rich, (x, a) -> x.bestSides(a[0]), new int[1], 0, 0, 3);
    }

    private static void bestSetRange(int place, int low, int high) {
        Twins.range("bestSet, argument " + place, Menus::rich, (x, a) -> x.bestSet(a[0], a[1], a[2], a[3]),
            new int[] {0, 3, 2, 2}, place, low, high);
    }

    static void bestSetSide() {
        bestSetRange(0, 0, 1);
    }

    static void bestSetLines() {
        bestSetRange(1, 0, 150);
    }

    static void bestSetColumn() {
        bestSetRange(2, 1, 4);
    }

    static void bestSetWhat() {
        bestSetRange(3, 0, 2);
    }

    static void bestSetWithoutSuchASet() {
        for (int what = 0; what < 3; what++) {
            int asked = what;
            unchanged("bestSet", Menus::rich, x -> x.bestSet(0, 4, 2, asked), NONE);
            due("of none", new FoldedMenu().bestSet(1, 150, 4, what), NONE);
        }
    }

    static void bestSetWrongArgumentGoesAheadOfNone() {
        int[][] bad = {{2, 1, 4, 0}, {-1, 1, 4, 0}, {0, 151, 4, 0}, {0, 1, 0, 0}, {0, 1, 5, 0}, {0, 1, 4, 3}, {0, 1, 4, -1}};
        for (int[] a : bad) {
            due("bestSet", new FoldedMenu().bestSet(a[0], a[1], a[2], a[3]), INVALID);
        }
    }

    /** What the document's face says of promises 15 to 25: they look, and change nothing. */
    static void lookingChangesNothing() {
        for (int what = 0; what < 16; what++) {
            int asked = what;
            FoldedMenu x = Menus.rich();
            unchanged("count", Menus::rich, y -> y.count(asked), x.count(what));
        }
        unchanged("card", Menus::rich, x -> x.card(9), 1);
        unchanged("dish", Menus::rich, x -> x.dish(0, 8), 2);
        unchanged("line", Menus::rich, x -> x.line(0, 0, 3), 6);
        unchanged("account", Menus::rich, x -> x.account(0, 0), 2);
        unchanged("why", Menus::rich, x -> x.why(3), 2);
        unchanged("evenSeasons", Menus::rich, FoldedMenu::evenSeasons, 15);
        unchanged("bestSides", Menus::rich, x -> x.bestSides(0), 1);
        unchanged("bestSet", Menus::rich, x -> x.bestSet(0, 3, 2, 2), 1);
    }
}
