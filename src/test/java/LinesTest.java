/** The boundaries that the part 'Lines' of the document's terms names. */
public final class LinesTest {
    private static final int NONE = FoldedMenu.NONE;
    private static final int[] PRICES = {0, 1, 10, 100, 1000};

    public static void main(String[] args) {
        Due.runAll(LinesTest.class);
    }

    private static void due(String call, long got, long want) {
        Due.due(call, got, want);
    }

    private static void dueLine(FoldedMenu x, int side, int index, int... want) {
        for (int what = 0; what < want.length; what++) {
            due("line(" + side + ", " + index + ", " + what + ")", x.line(side, index, what), want[what]);
        }
    }

    // ---- the text of a dish, and its lines

    static void onlyAllergensBringASpace() {
        int[] allergens = {0, 1, 128, 3, 255};
        int[] texts = {10, 12, 12, 13, 19};
        for (int i = 0; i < allergens.length; i++) {
            FoldedMenu x = new FoldedMenu();
            x.addDish(0, 10, 10, 15, allergens[i], 2);
            due("text with allergens " + allergens[i], x.line(0, 2, 4), texts[i]);
            due("leader", x.line(0, 2, 5), 40 - 2 - texts[i]);
        }
    }

    private static FoldedMenu oneDish(int width, int letters, int column) {
        FoldedMenu x = new FoldedMenu();
        x.setCard(1, width);
        x.addDish(0, letters, PRICES[column], 15, 0, 1);
        return x;
    }

    static void aDishHasALineMoreWhenOneCharacterHasNoRoom() {
        for (int width : new int[] {20, 21, 40, 60}) {
            for (int column = 1; column <= 4; column++) {
                int lines = 1;
                for (int letters = width - 3 - column; letters < 99; letters += width) {
                    due("just room, width " + width, oneDish(width, letters, column).dish(0, 7), lines);
                    due("no room, width " + width, oneDish(width, letters + 1, column).dish(0, 7), lines + 1);
                    lines++;
                }
            }
        }
    }

    static void allergensTakeRoomInTheText() {
        FoldedMenu x = oneDish(40, 33, 2);
        x.setDish(0, 4, 16);
        due("33 + 2 + 3 + 2 = 40", x.dish(0, 7), 1);
        x.setDish(0, 4, 17);
        due("33 + 3 + 3 + 2 = 41", x.dish(0, 7), 2);
    }

    static void theLongestDishHasSixLines() {
        FoldedMenu x = oneDish(20, 99, 4);
        x.setDish(0, 4, 255);
        due("108 + 3 + 4 = 115", x.dish(0, 7), 6);
        due("the sixth line", x.line(0, 7, 4), 8);
        due("its leader", x.line(0, 7, 5), 8);
        due("no seventh one", x.line(0, 8, 4), NONE);
    }

    static void theShortestDishHasOneLine() {
        FoldedMenu x = oneDish(60, 1, 1);
        due("lines", x.dish(0, 7), 1);
        due("text", x.line(0, 2, 4), 1);
        due("leader", x.line(0, 2, 5), 58);
    }

    /** Of the dish in 20 characters with a column of 4: the text and the leader of each line. */
    private static void dueText(int letters, int... textsAndLeaders) {
        FoldedMenu x = oneDish(20, letters, 4);
        int lines = textsAndLeaders.length / 2;
        due("lines of " + letters, x.dish(0, 7), lines);
        for (int i = 0; i < lines; i++) {
            due("text " + i + " of " + letters, x.line(0, 2 + i, 4), textsAndLeaders[2 * i]);
            due("leader " + i + " of " + letters, x.line(0, 2 + i, 5), textsAndLeaders[2 * i + 1]);
        }
        due("no more", x.line(0, 2 + lines, 4), NONE);
    }

    static void theLeaderHasThreeWhereTheRoomIsJustEnough() {
        dueText(13, 13, 3);
        dueText(33, 20, 0, 13, 3);
        dueText(93, 20, 0, 20, 0, 20, 0, 20, 0, 13, 3);
    }

    static void theLastLineHasNoTextWhereOnlyLeaderAndPriceAreLeft() {
        dueText(14, 14, 0, 0, 16);
        dueText(20, 20, 0, 0, 16);
        dueText(34, 20, 0, 14, 0, 0, 16);
        dueText(99, 20, 0, 20, 0, 20, 0, 20, 0, 19, 0, 0, 16);
    }

    static void theTextGoesOnInTheLastLine() {
        dueText(21, 20, 0, 1, 15);
        dueText(41, 20, 0, 20, 0, 1, 15);
    }

    static void theFirstLineOfADishHasTwoMore() {
        for (int weight = 1; weight <= 5; weight++) {
            FoldedMenu x = oneDish(20, 34, 4);
            x.setDish(0, 5, weight);
            due("first line", x.line(0, 2, 3), weight + 2);
            due("second line", x.line(0, 3, 3), weight);
            due("third line", x.line(0, 4, 3), weight);
            due("weights of the side", x.count(4), 6 + 2 + 3 * weight);
        }
    }

    // ---- headings, order and spacing

    static void aHeadingHasTwoLines() {
        FoldedMenu x = new FoldedMenu();
        Menus.plain(x, 1, 10);
        dueLine(x, 0, 0, 1, 1, 0, 6, 0, 0);
        dueLine(x, 0, 1, 1, 1, 1, 0, 0, 0);
        dueLine(x, 0, 2, 2, 0, 0, 4, 10, 28);
        due("lines of headings", x.account(0, 0), 2);
    }

    static void aCourseWithoutPrintedDishesHasNoHeading() {
        FoldedMenu x = new FoldedMenu();
        Menus.plain(x, 0, 10);
        Menus.plain(x, 1, 10);
        due("two headings", x.account(0, 0), 4);
        x.setDish(0, 6, 0);
        due("one heading", x.account(0, 0), 2);
        due("of course 1", x.line(0, 0, 1), 1);
        x.setCard(0, 3);
        x.setDish(1, 3, 7);
        due("no heading", x.account(0, 0), 0);
        due("no lines", x.count(2), 0);
        due("no weight", x.count(4), 0);
    }

    static void coursesAndDishesGoByAscendingNumbers() {
        FoldedMenu x = new FoldedMenu();
        x.setSide(2, 0);
        x.setSide(3, 0);
        for (int dish = 0; dish < 8; dish++) {
            Menus.plain(x, 3 - dish % 4, 10);
        }
        for (int course = 0; course < 4; course++) {
            due("heading of " + course, x.line(0, 5 * course, 1), course);
            due("its first dish", x.line(0, 5 * course + 2, 1), 3 - course);
            due("its second dish", x.line(0, 5 * course + 4, 1), 7 - course);
        }
        due("lines", x.count(2), 20);
        due("the other side", x.count(3), 0);
    }

    static void spacingIsAheadOfEachDishButTheFirst() {
        for (int spacing = 0; spacing <= 2; spacing++) {
            FoldedMenu x = new FoldedMenu();
            x.setCard(3, spacing);
            for (int dish = 0; dish < 3; dish++) {
                Menus.plain(x, 0, 10);
            }
            for (int dish = 0; dish < 3; dish++) {
                due("dish " + dish, x.dish(dish, 8), 2 + dish * (1 + spacing));
            }
            due("no spacing behind the last one", x.count(2), 5 + 2 * spacing);
            due("lines of spacing", x.account(0, 2), 2 * spacing);
        }
    }

    static void aloneADishHasNoSpacing() {
        FoldedMenu x = new FoldedMenu();
        x.setCard(3, 2);
        Menus.plain(x, 0, 10);
        Menus.plain(x, 1, 10);
        due("none", x.account(0, 2), 0);
        due("nor ahead of a heading", x.line(0, 3, 0), 1);
        due("lines", x.count(2), 6);
    }

    static void theFirstPrintedDishHasNoSpacing() {
        FoldedMenu x = new FoldedMenu();
        Menus.plain(x, 0, 10);
        Menus.plain(x, 0, 10);
        x.setDish(0, 6, 0);
        due("directly behind the heading", x.dish(1, 8), 2);
        due("spacing", x.account(0, 2), 0);
    }

    static void blankLinesTellNothing() {
        FoldedMenu x = new FoldedMenu();
        x.setCard(3, 2);
        Menus.plain(x, 0, 10);
        Menus.plain(x, 0, 10);
        dueLine(x, 0, 3, 0, NONE, 0, 0, 0, 0);
        dueLine(x, 0, 4, 0, NONE, 0, 0, 0, 0);
        due("weight without them", x.count(4), 6 + 4 + 4);
    }

    // ---- the key

    static void threeAllergensAreInALineOfTheKey() {
        int[] lines = {0, 1, 1, 1, 2, 2, 2, 3, 3};
        int[] inTheLast = {0, 1, 2, 3, 1, 2, 3, 1, 2};
        for (int allergens = 1; allergens <= 8; allergens++) {
            FoldedMenu x = new FoldedMenu();
            x.addDish(0, 10, 10, 15, (1 << allergens) - 1, 2);
            due("allergens", x.count(7), allergens);
            due("lines", x.account(1, 3), lines[allergens]);
            due("weight", x.count(5), allergens);
            for (int i = 0; i < lines[allergens]; i++) {
                dueLine(x, 1, i, 3, 3 * i, i, i < lines[allergens] - 1 ? 3 : inTheLast[allergens], 0, 0);
            }
            due("no more lines", x.line(1, lines[allergens], 0), NONE);
        }
    }

    static void theKeyGoesByAscendingNumbers() {
        FoldedMenu x = new FoldedMenu();
        x.addDish(0, 10, 10, 15, 128, 2);
        x.addDish(0, 10, 10, 15, 128 + 32, 2);
        x.addDish(0, 10, 10, 15, 8, 2);
        x.addDish(0, 10, 10, 15, 2, 2);
        due("each one once", x.count(7), 4);
        dueLine(x, 1, 0, 3, 1, 0, 3);
        dueLine(x, 1, 1, 3, 7, 1, 1);
    }

    static void withoutAllergensThereIsNoKey() {
        FoldedMenu x = new FoldedMenu();
        due("no dishes", x.count(8), NONE);
        Menus.plain(x, 0, 10);
        due("a dish without allergens", x.count(8), NONE);
        due("no lines", x.account(0, 3) + x.account(1, 3), 0);
        due("no allergens", x.count(7), 0);
    }

    static void onlyPrintedDishesAreInTheKey() {
        FoldedMenu x = new FoldedMenu();
        x.setCard(2, 1);
        x.addDish(0, 10, 10, 1, 1, 2);
        x.addDish(0, 10, 10, 1, 2, 2);
        due("behind the limit", x.count(7), 1);
        due("the first one's", x.line(1, 0, 1), 0);
        x.setDish(0, 6, 0);
        due("the second one's", x.line(1, 0, 1), 1);
        x.setCard(5, 2);
        due("none for the guest", x.count(8), NONE);
        x.setCard(5, 0);
        x.setCard(0, 1);
        due("none in another season", x.count(8), NONE);
    }

    /** One dish on each side with so many lines (in 20 characters) and weight; the first has an allergen. */
    private static FoldedMenu twoSides(int leftLines, int leftWeight, int rightLines, int rightWeight) {
        FoldedMenu x = new FoldedMenu();
        x.setCard(1, 20);
        x.addDish(0, 20 * leftLines - 10, 10, 15, 1, leftWeight);
        x.addDish(2, 20 * rightLines - 10, 10, 15, 0, rightWeight);
        due("lines of the left one", x.dish(0, 7), leftLines);
        due("lines of the right one", x.dish(1, 7), rightLines);
        return x;
    }

    static void theKeyIsOnTheSideWithALineFewer() {
        due("left", twoSides(1, 5, 2, 1).count(8), 0);
        due("right", twoSides(2, 1, 1, 5).count(8), 1);
    }

    static void withAsManyLinesTheKeyIsOnTheLighterSide() {
        due("left", twoSides(2, 2, 2, 3).count(8), 0);
        due("right", twoSides(2, 3, 2, 2).count(8), 1);
    }

    static void withAsMuchWeightTooTheKeyIsOnTheLeft() {
        due("left", twoSides(2, 3, 2, 3).count(8), 0);
    }

    static void theKeyIsOnASideWithoutLines() {
        FoldedMenu x = new FoldedMenu();
        x.addDish(0, 10, 10, 15, 1, 2);
        due("right", x.count(8), 1);
        x.setSide(0, 1);
        due("left", x.count(8), 0);
        dueLine(x, 0, 0, 3, 0, 0, 1);
    }

    static void theLinesOfTheKeyDoNotTellWhereItIs() {
        FoldedMenu x = twoSides(3, 1, 2, 1);
        x.setDish(0, 1, 40);
        x.setDish(0, 4, 255);
        due("left lines: 40 + 9 + 5 = 54", x.count(2), 5);
        due("right lines with the key", x.account(1, 1) + 2 + 3, 7);
        due("side", x.count(8), 1);
        due("difference", x.count(9), 2);
    }

    static void theKeyIsBehindAllElse() {
        FoldedMenu x = twoSides(1, 1, 2, 1);
        Menus.plain(x, 1, 10);
        x.setSide(1, 1);
        due("on the left", x.count(8), 0);
        due("its last line", x.line(0, x.count(2) - 1, 0), 3);
        due("the dish ahead of it", x.line(0, 2, 0), 2);
    }

    // ---- the fill

    /**
     * A side with as many places as told, all of them ahead of dishes of one course, and without
     * spacing; the other one has as many lines more as the gap tells.
     */
    private static FoldedMenu gap(int shortSide, int places, int gap, int slack) {
        FoldedMenu x = new FoldedMenu();
        x.setCard(2, 9);
        x.setCard(3, 0);
        x.setCard(4, slack);
        for (int course = 0; course < 4; course++) {
            x.setSide(course, course == 3 ? shortSide : 1 - shortSide);
        }
        for (int dish = 0; dish <= places; dish++) {
            Menus.plain(x, 3, 10);
        }
        // A course has nine dishes at most; two lines of the other one are its heading's.
        int lines = places + 1 + gap;
        int dishes = lines > 9 ? lines - 2 : lines;
        int inTheFirst = lines > 9 ? Math.min(9, dishes - 1) : dishes;
        for (int dish = 0; dish < dishes; dish++) {
            Menus.plain(x, dish < inTheFirst ? 0 : 1, 10);
        }
        due("gap", x.count(9), gap);
        return x;
    }

    private static void dueFill(int shortSide, int places, int gap, int slack, int want) {
        FoldedMenu x = gap(shortSide, places, gap, slack);
        due("fill of " + gap + " on " + places + " with slack " + slack, x.count(10), want);
        due("on the short side", x.account(shortSide, 4), want);
        due("on the long side", x.account(1 - shortSide, 4), 0);
        due("even", x.count(11), want == gap ? 1 : 0);
        due("lines", x.count(2 + shortSide), places + 3 + want);
    }

    static void withAsManyLinesThereIsNoFill() {
        for (int slack = 0; slack <= 3; slack++) {
            dueFill(0, 2, 0, slack, 0);
            dueFill(1, 2, 0, slack, 0);
        }
    }

    static void withoutSlackThereIsNoFill() {
        dueFill(1, 1, 1, 0, 0);
        dueFill(0, 3, 1, 0, 0);
    }

    static void aPlaceHasAsManyBlankLinesAsTheSlackTellsAndNoMore() {
        for (int slack = 1; slack <= 3; slack++) {
            for (int places = 1; places <= 3; places++) {
                for (int side = 0; side < 2; side++) {
                    dueFill(side, places, slack * places, slack, slack * places);
                    dueFill(side, places, slack * places + 1, slack, 0);
                }
            }
        }
    }

    static void theFirstPlacesHaveOneMore() {
        for (int gap = 1; gap <= 9; gap++) {
            FoldedMenu x = gap(1, 3, gap, 3);
            int at = 2;
            due("directly behind the heading", x.dish(0, 8), at);
            for (int place = 0; place < 3; place++) {
                at += 1 + gap / 3 + (place < gap % 3 ? 1 : 0);
                due("dish " + (place + 1) + " with gap " + gap, x.dish(place + 1, 8), at);
            }
        }
    }

    static void withoutPlacesThereIsNoFill() {
        for (int side = 0; side < 2; side++) {
            dueFill(side, 0, 1, 3, 0);
        }
    }

    static void anEmptySideHasNoPlace() {
        FoldedMenu x = new FoldedMenu();
        x.setCard(4, 3);
        Menus.plain(x, 0, 10);
        due("right", x.count(10), 0);
        x.setSide(0, 1);
        due("left", x.count(10), 0);
        due("not even", x.count(11), 0);
    }

    static void aKeyThatASideBeginsWithIsNoPlace() {
        FoldedMenu x = new FoldedMenu();
        x.setCard(4, 3);
        x.addDish(0, 10, 10, 15, 1, 2);
        due("gap", x.count(9), 2);
        due("fill", x.count(10), 0);
    }

    static void aSecondHeadingIsAPlaceButNotTheDishBehindIt() {
        FoldedMenu x = twoSides(5, 1, 1, 1);
        x.setDish(0, 4, 0);
        x.setDish(0, 1, 99);
        x.setCard(4, 2);
        Menus.plain(x, 3, 10);
        due("gap", x.count(9), 2);
        due("fill", x.count(10), 2);
        due("the first dish", x.dish(1, 8), 2);
        dueLine(x, 1, 3, 0, NONE, 0, 0);
        dueLine(x, 1, 4, 0, NONE, 0, 0);
        dueLine(x, 1, 5, 1, 3, 0, 6);
        due("the second dish", x.dish(2, 8), 7);
        x.setCard(4, 1);
        due("only one place", x.count(10), 0);
    }

    static void theKeyIsAPlaceBehindAllOthers() {
        FoldedMenu x = twoSides(5, 1, 1, 1);
        Menus.plain(x, 2, 10);
        x.setCard(3, 0);
        due("left: 7; right: 2 + 2 + 1", x.count(9), 2);
        dueLine(x, 1, 3, 0, NONE, 0, 0);
        due("the second dish", x.dish(2, 8), 4);
        dueLine(x, 1, 5, 0, NONE, 0, 0);
        dueLine(x, 1, 6, 3, 0, 0, 1);
        x.setDish(0, 1, 94);
        due("left: 8", x.count(2), 8);
        due("three on two places", x.count(10), 3);
        due("two ahead of the dish", x.dish(2, 8), 5);
        dueLine(x, 1, 6, 0, NONE, 0, 0);
        dueLine(x, 1, 7, 3, 0, 0, 1);
    }

    static void fillAndSpacingAreBothAheadOfADish() {
        FoldedMenu x = twoSides(5, 1, 1, 1);
        x.setDish(0, 4, 0);
        x.setDish(0, 1, 99);
        x.setCard(3, 2);
        Menus.plain(x, 2, 10);
        due("gap", x.count(9), 2);
        due("behind two and two", x.dish(2, 8), 7);
        due("spacing", x.account(1, 2), 2);
        due("fill", x.account(1, 4), 2);
    }

    static void theGapIsThatWithTheKey() {
        FoldedMenu x = twoSides(2, 1, 1, 1);
        due("a line of the key on the right", x.count(9), 0);
        due("even without a fill", x.count(11), 1);
        due("no fill", x.count(10), 0);
    }

    static void theKeyMayMakeTheOtherSideTheShortOne() {
        FoldedMenu x = twoSides(2, 1, 1, 1);
        Menus.plain(x, 0, 10);
        Menus.plain(x, 2, 10);
        x.setCard(3, 0);
        x.setDish(0, 1, 20);
        x.setDish(0, 4, 31);
        due("left: 2 + 2 + 1; right: 2 + 1 + 1 + 2", x.count(9), 1);
        due("fill on the left", x.account(0, 4), 1);
        due("none on the right", x.account(1, 4), 0);
        due("ahead of the second dish", x.dish(2, 8), 5);
    }

    static void aFullSideHasAllItsLines() {
        FoldedMenu x = new FoldedMenu();
        for (int dish = 0; dish < 20; dish++) {
            x.addDish(dish / 5, 99, 9999, 15, 255, 5);
        }
        x.setCard(1, 20);
        x.setCard(3, 2);
        x.setSide(2, 0);
        x.setSide(3, 0);
        due("lines", x.count(2), 4 * 2 + 20 * 6 + 16 * 2);
        due("the last line", x.line(0, 159, 1), 19);
        due("no more", x.line(0, 160, 1), NONE);
        due("weights", x.count(4), 4 * 6 + 20 * 32);
        due("prices", x.count(12), 20 * 9999);
    }
}
