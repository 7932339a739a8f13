/** The boundaries that the parts 'Dishes' and 'Card' of the document's terms name. */
public final class CardTest {
    private static final int INVALID = FoldedMenu.INVALID_ARGUMENT;
    private static final int NONE = FoldedMenu.NONE;

    public static void main(String[] args) {
        Due.runAll(CardTest.class);
    }

    private static void due(String call, long got, long want) {
        Due.due(call, got, want);
    }

    // ---- promise 1 and dishes

    static void aNewCardHasNoDishesSnapshotsTextOrHistory() {
        FoldedMenu x = new FoldedMenu();
        int[] counts = {0, 0, 0, 0, 0, 0, 0, 0, NONE, 0, 0, 1, 0, 0, 0, 0};
        for (int what = 0; what < counts.length; what++) {
            due("count(" + what + ")", x.count(what), counts[what]);
        }
    }

    static void aNewCardHasTheFirstValues() {
        int[] first = {0, 40, 5, 1, 2, 0, 0, 0, 1, 1};
        for (int what = 0; what < first.length; what++) {
            due("card(" + what + ")", new FoldedMenu().card(what), first[what]);
        }
    }

    static void objectsHaveNothingInCommon() {
        FoldedMenu x = Menus.rich();
        FoldedMenu y = new FoldedMenu();
        due("dishes", y.count(0), 0);
        y.setCard(1, 20);
        due("width", x.card(1), 40);
    }

    static void aSnapshotOfANewCardHasItsFirstValues() {
        FoldedMenu x = new FoldedMenu();
        x.take(0);
        int[] other = {3, 60, 9, 2, 3, 255};
        for (int what = 0; what < 6; what++) {
            x.setCard(what, other[what]);
        }
        x.restore(0);
        due("width", x.card(1), 40);
        due("slack", x.card(4), 2);
    }

    static void dishesAreNumberedFrom0() {
        FoldedMenu x = new FoldedMenu();
        due("the first one", Menus.plain(x, 3, 10), 0);
        due("the second one", Menus.plain(x, 0, 10), 1);
    }

    static void aNewDishIsOnOffer() {
        FoldedMenu x = new FoldedMenu();
        Menus.plain(x, 0, 10);
        x.setDish(0, 6, 0);
        x.removeDish(0);
        Menus.plain(x, 0, 10);
        due("on offer", x.dish(0, 6), 1);
    }

    /** Full has the price of each dish one more than its number. */
    private static void removeFromFull(int removed) {
        FoldedMenu x = Menus.full();
        x.setDish(18, 6, 0);
        due("left", x.removeDish(removed), 19);
        for (int dish = 0; dish < 19; dish++) {
            int was = dish < removed ? dish : dish + 1;
            due("price of " + dish, x.dish(dish, 2), was + 1);
            due("course of " + dish, x.dish(dish, 0), was % 4);
            due("offer of " + dish, x.dish(dish, 6), was == 18 ? 0 : 1);
        }
        due("no dish", x.dish(19, 0), INVALID);
    }

    static void allBehindTheFirstMoveUp() {
        removeFromFull(0);
    }

    static void thoseBehindOneInTheMiddleMoveUp() {
        removeFromFull(7);
    }

    static void theLastOneMovesUpWhenTheOneAheadGoes() {
        removeFromFull(18);
    }

    static void noneMovesUpWhenTheLastOneGoes() {
        removeFromFull(19);
    }

    static void aRemovedDishMakesRoomForOneMore() {
        FoldedMenu x = Menus.full();
        x.removeDish(4);
        due("room", Menus.plain(x, 2, 77), 19);
        due("its price", x.dish(19, 2), 77);
        due("no room", Menus.plain(x, 2, 77), FoldedMenu.CAPACITY_EXCEEDED);
    }

    static void aRemovedDishIsNowhereAnyMore() {
        FoldedMenu x = new FoldedMenu();
        Menus.plain(x, 0, 10);
        x.addDish(0, 99, 9999, 15, 255, 5);
        x.removeDish(1);
        due("printed", x.count(1), 1);
        due("column", x.count(6), 2);
        due("key", x.count(8), NONE);
        due("prices", x.count(12), 10);
        due("best set", x.bestSet(0, 3, 4, 2), 1);
        due("no dish", x.why(1), INVALID);
    }

    static void theOneBehindARemovedDishIsPrintedWithinTheLimit() {
        FoldedMenu x = new FoldedMenu();
        x.setCard(2, 1);
        Menus.plain(x, 0, 10);
        Menus.plain(x, 0, 20);
        due("the limit", x.why(1), 4);
        x.removeDish(0);
        due("now it is the first one", x.why(0), 0);
    }

    // ---- sets, season and guest

    static void eachSeasonHasItsBit() {
        for (int own = 0; own < 4; own++) {
            for (int season = 0; season < 4; season++) {
                FoldedMenu x = new FoldedMenu();
                x.addDish(0, 10, 10, 1 << own, 0, 2);
                x.setCard(0, season);
                due("own " + own + ", season " + season, x.why(0), own == season ? 0 : 2);
                due("printed", x.count(1), own == season ? 1 : 0);
            }
        }
    }

    static void eachAllergenHasItsBit() {
        for (int own = 0; own < 8; own++) {
            for (int guest = 0; guest < 8; guest++) {
                FoldedMenu x = new FoldedMenu();
                x.addDish(0, 10, 10, 15, 1 << own, 2);
                x.setCard(5, 1 << guest);
                due("own " + own + ", guest " + guest, x.why(0), own == guest ? 3 : 0);
                due("printed", x.count(1), own == guest ? 0 : 1);
                due("printedFor", x.printedFor(1 << own), 0);
                due("printedFor all others", x.printedFor(255 - (1 << own)), 1);
            }
        }
    }

    static void oneAllergenOfSeveralIsEnough() {
        FoldedMenu x = new FoldedMenu();
        x.addDish(0, 10, 10, 15, 129, 2);
        x.setCard(5, 126);
        due("none of 0 and 7", x.why(0), 0);
        x.setCard(5, 192);
        due("6 and 7", x.why(0), 3);
    }

    // ---- the limit

    static void asManyAsTheLimitArePrinted() {
        for (int limit = 1; limit <= 9; limit++) {
            FoldedMenu x = new FoldedMenu();
            for (int dish = 0; dish < 10; dish++) {
                Menus.plain(x, 2, 10);
            }
            x.setCard(2, limit);
            due("printed with limit " + limit, x.count(1), limit);
            due("the last one within it", x.why(limit - 1), 0);
            due("the first one behind it", x.why(limit), 4);
            due("lines of the last one within it", x.dish(limit - 1, 7), 1);
            due("lines of the first one behind it", x.dish(limit, 7), 0);
        }
    }

    static void theFirstLimitIsFive() {
        FoldedMenu x = new FoldedMenu();
        for (int dish = 0; dish < 6; dish++) {
            Menus.plain(x, 1, 10);
        }
        due("the fifth one", x.why(4), 0);
        due("the sixth one", x.why(5), 4);
    }

    static void theLimitIsForEachCourse() {
        FoldedMenu x = Menus.full();
        x.setCard(2, 1);
        due("one of each", x.count(1), 4);
        for (int dish = 0; dish < 20; dish++) {
            due("why(" + dish + ")", x.why(dish), dish < 4 ? 0 : 4);
        }
    }

    static void dishesThatAreNotPrintedAreNotCounted() {
        FoldedMenu x = new FoldedMenu();
        x.setCard(2, 1);
        Menus.plain(x, 0, 10);
        Menus.plain(x, 0, 10);
        due("behind the limit", x.why(1), 4);
        x.setDish(0, 6, 0);
        due("the first one is not on offer", x.why(1), 0);
        x.setDish(0, 6, 1);
        x.setDish(0, 3, 2);
        due("the first one is out of season", x.why(1), 0);
        x.setDish(0, 3, 1);
        x.setDish(0, 4, 1);
        due("it has an allergen of nobody", x.why(1), 4);
        x.setCard(5, 1);
        due("it has one of the guest", x.why(1), 0);
    }

    static void theLimitIsForAnotherGuestAndSeasonToo() {
        FoldedMenu x = new FoldedMenu();
        x.setCard(2, 1);
        x.addDish(0, 10, 10, 1, 1, 2);
        x.addDish(0, 10, 10, 3, 2, 2);
        x.addDish(0, 10, 10, 15, 4, 2);
        due("for nobody the first one", x.printedFor(0), 1);
        due("the second one", x.printedFor(1), 1);
        due("the third one", x.printedFor(3), 1);
        due("none", x.printedFor(7), 0);
        due("replacement", x.replacement(0), 1);
    }

    // ---- the price column

    static void withoutDishesThereIsNoColumn() {
        due("column", new FoldedMenu().count(6), 0);
    }

    static void withoutPrintedDishesThereIsNoColumn() {
        FoldedMenu x = new FoldedMenu();
        x.addDish(0, 10, 9999, 1, 1, 2);
        due("printed", x.count(6), 4);
        x.setDish(0, 6, 0);
        due("not on offer", x.count(6), 0);
        x.setDish(0, 6, 1);
        x.setCard(0, 1);
        due("out of season", x.count(6), 0);
        x.setCard(0, 0);
        x.setCard(5, 1);
        due("for the guest", x.count(6), 0);
        due("and no prices", x.count(12), 0);
    }

    static void theColumnHasTheDigitsOfThePrice() {
        int[] prices = {1, 9, 10, 99, 100, 999, 1000, 9999};
        for (int i = 0; i < prices.length; i++) {
            FoldedMenu x = new FoldedMenu();
            Menus.plain(x, 3, prices[i]);
            due("column of " + prices[i], x.count(6), i / 2 + 1);
            due("leader", x.line(1, 2, 5), 40 - 10 - (i / 2 + 1));
        }
    }

    static void theHighestPriceTellsForBothSides() {
        FoldedMenu x = new FoldedMenu();
        x.addDish(0, 33, 9, 15, 0, 2);
        Menus.plain(x, 2, 1000);
        Menus.plain(x, 2, 9);
        due("column", x.count(6), 4);
        due("33 + 3 + 4 = 40", x.dish(0, 7), 1);
        x.setDish(0, 1, 34);
        due("34 + 3 + 4 = 41", x.dish(0, 7), 2);
        x.setDish(1, 2, 999);
        due("34 + 3 + 3 = 40", x.dish(0, 7), 1);
    }

    static void aDearDishThatIsNotPrintedLeavesTheColumn() {
        FoldedMenu x = new FoldedMenu();
        Menus.plain(x, 0, 9);
        Menus.plain(x, 0, 9999);
        x.setCard(2, 1);
        due("behind the limit", x.count(6), 1);
        x.setCard(2, 2);
        due("within it", x.count(6), 4);
        x.setDish(1, 6, 0);
        due("not on offer", x.count(6), 1);
    }
}
