/** The boundaries that the part 'Best sides' of the document's terms names, and promises 7 and 24. */
public final class BestSidesTest {
    public static void main(String[] args) {
        Due.runAll(BestSidesTest.class);
    }

    private static void due(String call, long got, long want) {
        Due.due(call, got, want);
    }

    /** No places for a fill, or none that may be used. */
    private static FoldedMenu withoutSlack() {
        FoldedMenu x = new FoldedMenu();
        x.setCard(4, 0);
        return x;
    }

    /** A course with one dish of two lines. */
    private static void twoLines(FoldedMenu x, int course, int weight) {
        x.addDish(course, 40, 10, 15, 0, weight);
    }

    private static void dueBest(FoldedMenu x, int way, int difference, int longer, int even) {
        due("the way", x.bestSides(0), way);
        due("the difference", x.bestSides(1), difference);
        due("the longer side", x.bestSides(2), longer);
        due("even", x.bestSides(3), even);
    }

    static void withoutDishesAllWaysAreAsGood() {
        dueBest(new FoldedMenu(), 0, 0, 0, 1);
    }

    static void oneCourseIsNeverEven() {
        for (int course = 0; course < 4; course++) {
            FoldedMenu x = new FoldedMenu();
            Menus.plain(x, course, 10);
            dueBest(x, 0, 10, 3, 0);
        }
    }

    /** Courses with 13, 9 and 12: 0 and 1 beside 2 are even and 10 apart; 0 beside 1 and 2 is 8 apart. */
    static void evenGoesAheadOfTheDifference() {
        FoldedMenu x = withoutSlack();
        Menus.heavy(x, 0, 5);
        Menus.heavy(x, 1, 1);
        x.addDish(2, 99, 10, 15, 0, 1);
        x.setCard(1, 26);
        due("the third course has four lines", x.dish(2, 7), 4);
        dueBest(x, 3, 10, 6, 1);
    }

    /** Three and four lines, which weigh 13 and 12. */
    static void withNoneEvenTheDifferenceTells() {
        FoldedMenu x = withoutSlack();
        Menus.heavy(x, 0, 5);
        twoLines(x, 1, 2);
        dueBest(x, 1, 1, 4, 0);
    }

    /**
     * Courses with 3, 4, 4, 3 lines that weigh 13, 10, 12, 9. 0 and 1 beside 2 and 3 have seven lines
     * each and are 2 apart; 0 and 3 beside 1 and 2 are as heavy, with two lines of fill.
     */
    static void theDifferenceGoesAheadOfTheLines() {
        FoldedMenu x = new FoldedMenu();
        Menus.heavy(x, 0, 5);
        twoLines(x, 1, 1);
        twoLines(x, 2, 2);
        Menus.heavy(x, 3, 1);
        dueBest(x, 6, 0, 8, 1);
        x.setCard(4, 1);
        dueBest(x, 3, 2, 7, 1);
    }

    /** Courses with 3, 4, 3 lines that weigh 12, 12, 9: way 1 and way 2 are both 9 apart. */
    static void theLinesGoAheadOfTheNumber() {
        FoldedMenu x = withoutSlack();
        Menus.heavy(x, 0, 4);
        twoLines(x, 1, 2);
        Menus.heavy(x, 2, 1);
        dueBest(x, 2, 9, 6, 0);
    }

    static void ofWaysAsGoodTheSmallestNumberIsBest() {
        FoldedMenu x = new FoldedMenu();
        for (int course = 0; course < 4; course++) {
            Menus.plain(x, course, 10);
        }
        dueBest(x, 3, 0, 6, 1);
    }

    static void coursesWithoutPrintedDishesStayOnTheLeft() {
        FoldedMenu x = new FoldedMenu();
        Menus.plain(x, 1, 10);
        Menus.plain(x, 3, 10);
        dueBest(x, 2, 0, 3, 1);
        x.setDish(0, 6, 0);
        dueBest(x, 0, 10, 3, 0);
    }

    /**
     * Both courses have four lines and weigh 14, so the key is on the left; only course 3 has a place
     * for the fill then, and so it has to be on the right.
     */
    private static FoldedMenu onlyCourse3CanBeFilled() {
        FoldedMenu x = new FoldedMenu();
        x.setCard(3, 0);
        x.addDish(0, 40, 10, 15, 0, 3);
        x.addDish(3, 10, 10, 15, 1, 2);
        x.addDish(3, 10, 10, 15, 0, 2);
        return x;
    }

    static void theWayHasABitForCourse3() {
        dueBest(onlyCourse3CanBeFilled(), 8, 1, 5, 1);
    }

    static void arrangePutsCoursesByTheBits() {
        FoldedMenu x = onlyCourse3CanBeFilled();
        for (int course = 0; course < 4; course++) {
            x.setSide(course, course == 3 ? 0 : 1);
        }
        due("the difference", x.arrange(), 1);
        for (int course = 0; course < 4; course++) {
            due("side of " + course, x.card(6 + course), course == 3 ? 1 : 0);
        }
        due("even", x.count(11), 1);
        due("weights", Math.abs(x.count(4) - x.count(5)), 1);
    }

    static void theKeyIsPartOfTheDifference() {
        FoldedMenu x = new FoldedMenu();
        x.addDish(0, 10, 10, 15, 255, 2);
        Menus.plain(x, 1, 10);
        dueBest(x, 1, 8, 6, 0);
    }

    static void theSidesAsTheyAreDoNotTell() {
        for (int way = 0; way < 16; way++) {
            FoldedMenu x = onlyCourse3CanBeFilled();
            for (int course = 0; course < 4; course++) {
                x.setSide(course, way >> course & 1);
            }
            dueBest(x, 8, 1, 5, 1);
            for (int course = 0; course < 4; course++) {
                due("side of " + course, x.card(6 + course), way >> course & 1);
            }
        }
    }

    static void arrangeOfAnEmptyCardPutsAllOnTheLeft() {
        FoldedMenu x = new FoldedMenu();
        due("the difference", x.arrange(), 0);
        for (int course = 0; course < 4; course++) {
            due("side of " + course, x.card(6 + course), 0);
        }
        due("an action", x.count(14), 1);
    }

    static void arrangeThatChangesNothingIsAnAction() {
        FoldedMenu x = onlyCourse3CanBeFilled();
        x.arrange();
        due("again", x.arrange(), 1);
        due("history", x.count(14), 5);
        x.undo();
        due("as it was", x.card(9), 1);
        due("undo", x.undo(), 3);
        due("before both", x.card(8), 1);
    }
}
