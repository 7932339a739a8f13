/** The boundaries that the part 'Best sets' of the document's terms names, and promises 8 and 25. */
public final class BestSetsTest {
    private static final int NONE = FoldedMenu.NONE;
    private static final int STATE = FoldedMenu.ILLEGAL_STATE;

    public static void main(String[] args) {
        Due.runAll(BestSetsTest.class);
    }

    private static void due(String call, long got, long want) {
        Due.due(call, got, want);
    }

    /** The best set of a side: both answers for the sum, and the set. */
    private static void dueSet(FoldedMenu x, int side, int lines, int column, int sum, int set) {
        String name = "bestSet(" + side + ", " + lines + ", " + column + ", ";
        due(name + "0)", x.bestSet(side, lines, column, 0), sum);
        due(name + "1)", x.bestSet(side, lines, column, 1), sum);
        due(name + "2)", x.bestSet(side, lines, column, 2), set);
    }

    private static void dueNone(FoldedMenu x, int side, int lines, int column) {
        dueSet(x, side, lines, column, NONE, NONE);
    }

    private static FoldedMenu dishes(int count, int course, int spacing, int limit) {
        FoldedMenu x = new FoldedMenu();
        x.setCard(3, spacing);
        x.setCard(2, limit);
        for (int dish = 0; dish < count; dish++) {
            Menus.plain(x, course, 10);
        }
        return x;
    }

    // ---- lines

    static void theEmptySetHasNoLines() {
        dueSet(new FoldedMenu(), 0, 0, 1, 0, 0);
        dueSet(new FoldedMenu(), 1, 0, 4, 0, 0);
        dueSet(dishes(3, 0, 1, 5), 0, 0, 4, 0, 0);
    }

    static void noSetHasLessThanThreeLines() {
        FoldedMenu x = dishes(3, 0, 0, 5);
        dueNone(x, 0, 1, 4);
        dueNone(x, 0, 2, 4);
        dueSet(x, 0, 3, 4, 10, 1);
    }

    static void aSetHasJustSoManyLines() {
        FoldedMenu x = dishes(2, 0, 1, 5);
        dueSet(x, 0, 3, 2, 10, 1);
        dueNone(x, 0, 4, 2);
        dueSet(x, 0, 5, 2, 20, 3);
        dueNone(x, 0, 6, 2);
        dueNone(x, 0, 150, 2);
    }

    static void spacingIsBetweenTheDishesOfTheSet() {
        for (int spacing = 0; spacing <= 2; spacing++) {
            FoldedMenu x = dishes(3, 1, spacing, 5);
            dueSet(x, 0, 3, 2, 10, 1);
            dueSet(x, 0, 4 + spacing, 2, 20, 3);
            dueSet(x, 0, 5 + 2 * spacing, 2, 30, 7);
            dueNone(x, 0, 6 + 2 * spacing, 2);
        }
    }

    static void eachCourseOfTheSetHasAHeading() {
        FoldedMenu x = dishes(1, 0, 0, 5);
        Menus.plain(x, 1, 10);
        dueNone(x, 0, 4, 2);
        dueNone(x, 0, 5, 2);
        dueSet(x, 0, 6, 2, 20, 3);
    }

    /** A dish ahead of the heading, dear as it is, doesn't stand in for a dish of the course behind it. */
    static void dishesOfTwoCoursesHaveTwoHeadings() {
        FoldedMenu x = dishes(1, 0, 0, 5);
        x.setDish(0, 2, 50);
        Menus.plain(x, 1, 10);
        Menus.plain(x, 1, 10);
        dueSet(x, 0, 4, 2, 20, 6);
        dueNone(x, 0, 5, 2);
        dueSet(x, 0, 6, 2, 60, 3);
        dueSet(x, 0, 7, 2, 70, 7);
        dueNone(x, 0, 8, 2);
    }

    static void dishesHaveTheLinesThatTheColumnLeaves() {
        for (int column = 1; column <= 4; column++) {
            FoldedMenu x = new FoldedMenu();
            x.addDish(0, 40 - 3 - column, 9, 15, 0, 2);
            dueSet(x, 0, 3, column, 9, 1);
            x.setDish(0, 1, 40 - 3 - column + 1);
            dueNone(x, 0, 3, column);
            dueSet(x, 0, 4, column, 9, 1);
        }
    }

    static void theColumnOfTheCardDoesNotTell() {
        FoldedMenu x = new FoldedMenu();
        x.addDish(0, 36, 9, 15, 0, 2);
        Menus.plain(x, 3, 9999);
        due("the card's column", x.count(6), 4);
        due("its lines", x.dish(0, 7), 2);
        dueSet(x, 0, 3, 1, 9, 1);
    }

    /** 4 headings, 10 dishes of six lines and 10 of five, 16 times a spacing of two. */
    static void aSetMayHave150Lines() {
        FoldedMenu x = new FoldedMenu();
        for (int dish = 0; dish < 20; dish++) {
            x.addDish(dish / 5, dish < 10 ? 99 : 93, 1000, 15, 0, 2);
        }
        x.setCard(1, 20);
        x.setCard(3, 2);
        x.setSide(2, 0);
        x.setSide(3, 0);
        dueSet(x, 0, 150, 4, 20000, (1 << 20) - 1);
        dueNone(x, 0, 149, 4);
        due("choose", x.choose(0, 150, 4), 20000);
        x.setDish(19, 1, 94);
        dueNone(x, 0, 150, 4);
    }

    // ---- candidates

    static void aPriceHasNoMoreDigitsThanTheColumn() {
        int[] most = {0, 9, 99, 999, 9999};
        for (int column = 1; column <= 4; column++) {
            FoldedMenu x = new FoldedMenu();
            Menus.plain(x, 0, most[column]);
            dueSet(x, 0, 3, column, most[column], 1);
            if (column < 4) {
                x.setDish(0, 2, most[column] + 1);
                dueNone(x, 0, 3, column);
                dueSet(x, 0, 3, column + 1, most[column] + 1, 1);
            }
        }
    }

    static void aCandidateMayBeNotOnOffer() {
        FoldedMenu x = dishes(1, 0, 1, 5);
        x.setDish(0, 6, 0);
        dueSet(x, 0, 3, 2, 10, 1);
    }

    static void aCandidateIsInSeason() {
        FoldedMenu x = dishes(1, 0, 1, 5);
        x.setDish(0, 3, 14);
        dueNone(x, 0, 3, 2);
        x.setCard(0, 3);
        dueSet(x, 0, 3, 2, 10, 1);
    }

    static void aCandidateIsForTheGuest() {
        FoldedMenu x = dishes(1, 0, 1, 5);
        x.setDish(0, 4, 128);
        dueSet(x, 0, 3, 2, 10, 1);
        x.setCard(5, 128);
        dueNone(x, 0, 3, 2);
        x.setCard(5, 127);
        dueSet(x, 0, 3, 2, 10, 1);
    }

    static void aCandidateIsOfACourseOfTheSide() {
        for (int course = 0; course < 4; course++) {
            for (int side = 0; side < 2; side++) {
                FoldedMenu x = dishes(1, course, 1, 5);
                x.setSide(course, side);
                dueSet(x, side, 3, 2, 10, 1);
                dueNone(x, 1 - side, 3, 2);
            }
        }
    }

    static void theSetHasABitForEachDish() {
        FoldedMenu x = Menus.full();
        x.setCard(2, 9);
        for (int dish = 0; dish < 20; dish++) {
            for (int other = 0; other < 20; other++) {
                x.setDish(other, 3, other == dish ? 1 : 2);
            }
            due("set of " + dish, x.bestSet(dish % 4 / 2, 3, 2, 2), 1 << dish);
        }
    }

    // ---- the limit

    static void aSetHasAsManyDishesOfACourseAsTheLimit() {
        for (int limit = 1; limit <= 9; limit++) {
            FoldedMenu x = dishes(10, 2, 0, limit);
            dueSet(x, 1, 2 + limit, 2, 10 * limit, (1 << limit) - 1);
            dueNone(x, 1, 2 + limit + 1, 2);
        }
    }

    static void theLimitIsForEachCourse() {
        FoldedMenu x = dishes(2, 0, 0, 1);
        Menus.plain(x, 1, 10);
        Menus.plain(x, 1, 10);
        dueSet(x, 0, 6, 2, 20, 5);
        dueNone(x, 0, 7, 2);
        dueNone(x, 0, 8, 2);
    }

    static void theLimitDoesNotCountDishesAheadThatAreNotInTheSet() {
        FoldedMenu x = dishes(3, 0, 0, 1);
        x.setDish(2, 2, 99);
        due("not printed", x.why(2), 4);
        dueSet(x, 0, 3, 2, 99, 4);
    }

    // ---- the greatest sum, and ties

    static void theGreatestSumIsBest() {
        FoldedMenu x = dishes(3, 0, 0, 5);
        x.setDish(1, 2, 11);
        x.setDish(2, 2, 12);
        dueSet(x, 0, 3, 2, 12, 4);
        dueSet(x, 0, 4, 2, 23, 6);
    }

    static void oneDearDishGoesAheadOfTwoCheapOnes() {
        FoldedMenu x = dishes(2, 0, 0, 5);
        x.addDish(0, 40, 21, 15, 0, 2);
        dueSet(x, 0, 4, 2, 21, 4);
        x.setDish(2, 2, 19);
        dueSet(x, 0, 4, 2, 20, 3);
    }

    static void ofEqualSetsTheOneWithoutTheLastCandidateIsBest() {
        FoldedMenu x = dishes(3, 0, 0, 5);
        dueSet(x, 0, 3, 2, 10, 1);
        dueSet(x, 0, 4, 2, 20, 3);
        x.setDish(0, 2, 9);
        dueSet(x, 0, 3, 2, 10, 2);
    }

    /** The number of dishes doesn't tell: one of two lines at the end, two of one line ahead of it. */
    static void aLongDishAtTheEndIsLeftOut() {
        FoldedMenu x = dishes(2, 0, 0, 5);
        x.addDish(0, 40, 20, 15, 0, 2);
        dueSet(x, 0, 4, 2, 20, 3);
    }

    static void aLongDishAtTheBeginningIsTaken() {
        FoldedMenu x = new FoldedMenu();
        x.setCard(3, 0);
        x.addDish(0, 40, 20, 15, 0, 2);
        Menus.plain(x, 0, 10);
        Menus.plain(x, 0, 10);
        dueSet(x, 0, 4, 2, 20, 1);
    }

    /** Dishes of one to four lines: only 0 and 3, and 1 and 2, have five; they differ first in 3. */
    static void comparedFromTheLastOneBack() {
        FoldedMenu x = new FoldedMenu();
        x.setCard(1, 20);
        x.setCard(3, 0);
        for (int dish = 0; dish < 4; dish++) {
            x.addDish(0, 10 + 20 * dish, 10, 15, 0, 2);
        }
        dueSet(x, 0, 7, 2, 20, 6);
        x.setDish(0, 2, 11);
        dueSet(x, 0, 7, 2, 21, 9);
        x.setDish(2, 2, 11);
        dueSet(x, 0, 7, 2, 21, 6);
    }

    static void theOrderOfTheSideIsByCourses() {
        FoldedMenu x = dishes(1, 1, 0, 5);
        Menus.plain(x, 0, 10);
        // Dish 0 is of course 1, so it is behind dish 1 on the side.
        dueSet(x, 0, 3, 2, 10, 2);
        Menus.plain(x, 1, 10);
        dueSet(x, 0, 6, 2, 20, 3);
        Menus.plain(x, 0, 10);
        dueSet(x, 0, 4, 2, 20, 10);
        dueSet(x, 0, 7, 2, 30, 11);
    }

    static void theOrderIsThatOfTheSideNow() {
        FoldedMenu x = dishes(1, 3, 0, 5);
        Menus.plain(x, 0, 10);
        dueSet(x, 1, 3, 2, 10, 1);
        x.setSide(0, 1);
        dueSet(x, 1, 3, 2, 10, 2);
        dueNone(x, 0, 3, 2);
    }

    // ---- choose

    private static void dueOffers(FoldedMenu x, int... offers) {
        for (int dish = 0; dish < offers.length; dish++) {
            due("offer of " + dish, x.dish(dish, 6), offers[dish]);
        }
    }

    /** Dishes 1 and 2 are candidates; the others are too dear, of the other side, out of season, for nobody. */
    private static FoldedMenu candidatesAndOthers(int offer) {
        FoldedMenu x = new FoldedMenu();
        x.addDish(0, 10, 100, 15, 0, 2);
        x.addDish(0, 10, 99, 15, 0, 2);
        x.addDish(0, 10, 98, 15, 0, 2);
        x.addDish(2, 10, 10, 15, 0, 2);
        x.addDish(0, 10, 10, 2, 0, 2);
        x.addDish(0, 10, 10, 15, 8, 2);
        x.setCard(5, 8);
        for (int dish = 0; dish < 6; dish++) {
            x.setDish(dish, 6, offer);
        }
        return x;
    }

    static void chooseLeavesThoseThatAreNoCandidates() {
        FoldedMenu x = candidatesAndOthers(1);
        due("choose", x.choose(0, 3, 2), 99);
        dueOffers(x, 1, 1, 0, 1, 1, 1);
        FoldedMenu y = candidatesAndOthers(0);
        due("choose", y.choose(0, 3, 2), 99);
        dueOffers(y, 0, 1, 0, 0, 0, 0);
    }

    static void chooseOfTheEmptySetTakesAllCandidatesOff() {
        FoldedMenu x = candidatesAndOthers(1);
        due("choose", x.choose(0, 0, 2), 0);
        dueOffers(x, 1, 0, 0, 1, 1, 1);
        due("choose of nothing", new FoldedMenu().choose(1, 0, 1), 0);
    }

    static void chooseOfAllPutsAllOnOffer() {
        FoldedMenu x = candidatesAndOthers(0);
        due("choose", x.choose(0, 5, 2), 99 + 98);
        dueOffers(x, 0, 1, 1, 0, 0, 0);
    }

    static void chooseWithoutSuchASetLeavesTheOffers() {
        FoldedMenu x = candidatesAndOthers(1);
        due("choose", x.choose(0, 4, 2), STATE);
        dueOffers(x, 1, 1, 1, 1, 1, 1);
    }

    static void chooseMakesTheSideHaveSoManyLines() {
        FoldedMenu x = dishes(20, 0, 1, 9);
        due("choose", x.choose(0, 2 + 9 + 8, 2), 90);
        due("lines", x.count(2), 19);
        due("printed", x.count(1), 9);
        due("no more", x.choose(0, 2 + 10 + 9, 2), STATE);
    }

    static void chooseThatChangesNothingIsAnAction() {
        FoldedMenu x = new FoldedMenu();
        due("choose", x.choose(0, 0, 1), 0);
        due("history", x.count(14), 1);
        due("choose again", x.choose(0, 0, 1), 0);
        due("history", x.count(14), 2);
    }
}
