/** Objects that several tests begin with, and calls that they make often. */
final class Menus {
    private Menus() {
    }

    /**
     * Dish 0 and 1 are printed, 2 is not on offer, 3 is out of season; both slots are taken, with
     * different menus, the history is full, and there is a text of one item.
     */
    static FoldedMenu rich() {
        FoldedMenu x = new FoldedMenu();
        x.addDish(0, 20, 45, 15, 5, 2);
        x.take(1);
        x.addDish(2, 60, 120, 15, 128, 5);
        x.setCard(4, 3);
        x.take(0);
        x.addDish(2, 12, 80, 3, 0, 1);
        x.addDish(1, 33, 9, 6, 2, 4);
        x.setDish(2, 6, 0);
        x.setSide(1, 1);
        x.setCard(3, 2);
        write(x, "3:9$9;");
        return x;
    }

    /** As many dishes as there may be, with the prices 1 to 20, five of each course. */
    static FoldedMenu full() {
        FoldedMenu x = new FoldedMenu();
        for (int dish = 0; dish < 20; dish++) {
            plain(x, dish % 4, dish + 1);
        }
        return x;
    }

    /** Rich, but with a text of 140 characters, all of them spaces. */
    static FoldedMenu fullText() {
        FoldedMenu x = rich();
        write(x, " ".repeat(140));
        return x;
    }

    /** A dish for all seasons without allergens, of weight 2, that has one line. */
    static int plain(FoldedMenu x, int course, int price) {
        return x.addDish(course, 10, price, 15, 0, 2);
    }

    /** Like a plain one, but of a weight. */
    static int heavy(FoldedMenu x, int course, int weight) {
        return x.addDish(course, 10, 10, 15, 0, weight);
    }

    static void write(FoldedMenu x, String text) {
        x.clearText();
        for (int i = 0; i < text.length(); i++) {
            x.append(text.charAt(i));
        }
    }

    /** The answer of load() for the text. */
    static int load(FoldedMenu x, String text) {
        write(x, text);
        return x.load();
    }
}
