/** At least one test for each promise: ordinary inputs, the document's edges, and wrong inputs. */
public final class PromiseTest {
    private static final int INVALID = FoldedMenu.INVALID_ARGUMENT;
    private static final int STATE = FoldedMenu.ILLEGAL_STATE;
    private static final int FULL = FoldedMenu.CAPACITY_EXCEEDED;
    private static final int NONE = FoldedMenu.NONE;
    private static final int MIN = Integer.MIN_VALUE;
    private static final int MAX = Integer.MAX_VALUE;

    public static void main(String[] args) {
        constants();
        newObject();
        addDish();
        removeDish();
        removedIsGone();
        setDish();
        setCard();
        setSide();
        arrange();
        choose();
        snapshots();
        undo();
        undoKeepsFive();
        text();
        load();
        loadErrors();
        loadRoom();
        loadEnds();
        count();
        key();
        fill();
        card();
        dish();
        fullSide();
        line();
        account();
        why();
        replacement();
        evenSeasons();
        printedFor();
        bestSides();
        bestSet();
        bestSetOrder();
        Due.end();
    }

    private static void due(String call, long got, long want) {
        Due.due(call, got, want);
    }

    /** A dish for all seasons without allergens, of weight 2, that has one line. */
    private static int plain(FoldedMenu x, int course, int price) {
        return x.addDish(course, 10, price, 15, 0, 2);
    }

    private static void write(FoldedMenu x, String text) {
        x.clearText();
        for (int i = 0; i < text.length(); i++) {
            due("append for " + text, x.append(text.charAt(i)), i + 1);
        }
    }

    private static void constants() {
        due("INVALID_ARGUMENT", FoldedMenu.INVALID_ARGUMENT, -1);
        due("ILLEGAL_STATE", FoldedMenu.ILLEGAL_STATE, -2);
        due("CAPACITY_EXCEEDED", FoldedMenu.CAPACITY_EXCEEDED, -3);
        due("NONE", FoldedMenu.NONE, -99);
    }

    private static void newObject() {
        FoldedMenu x = new FoldedMenu();
        int[] counts = {0, 0, 0, 0, 0, 0, 0, 0, NONE, 0, 0, 1, 0, 0, 0, 0};
        for (int what = 0; what < counts.length; what++) {
            due("new: count(" + what + ")", x.count(what), counts[what]);
        }
        int[] card = {0, 40, 5, 1, 2, 0, 0, 0, 1, 1};
        for (int what = 0; what < card.length; what++) {
            due("new: card(" + what + ")", x.card(what), card[what]);
        }
        due("new: restore(0)", x.restore(0), STATE);
        due("new: restore(1)", x.restore(1), STATE);
        due("new: undo()", x.undo(), STATE);
        due("new: clearText()", x.clearText(), 0);
    }

    private static void addDish() {
        FoldedMenu x = new FoldedMenu();
        int[][] edges = {{0, 1, 1, 1, 0, 1}, {3, 99, 9999, 15, 255, 5}};
        for (int i = 0; i < 2; i++) {
            int[] e = edges[i];
            due("addDish edge", x.addDish(e[0], e[1], e[2], e[3], e[4], e[5]), i);
            for (int what = 0; what < 6; what++) {
                due("dish(" + i + ", " + what + ")", x.dish(i, what), e[what]);
            }
            due("dish(" + i + ", 6)", x.dish(i, 6), 1);
        }
        for (int i = 0; i < 6; i++) {
            int[] low = edges[0].clone();
            low[i]--;
            due("addDish below " + i, x.addDish(low[0], low[1], low[2], low[3], low[4], low[5]), INVALID);
            int[] high = edges[1].clone();
            high[i]++;
            due("addDish above " + i, x.addDish(high[0], high[1], high[2], high[3], high[4], high[5]), INVALID);
            high[i] = MAX;
            due("addDish most " + i, x.addDish(high[0], high[1], high[2], high[3], high[4], high[5]), INVALID);
            low[i] = MIN;
            due("addDish least " + i, x.addDish(low[0], low[1], low[2], low[3], low[4], low[5]), INVALID);
        }
        due("history after errors", x.count(14), 2);
        for (int i = 2; i < 20; i++) {
            due("addDish", plain(x, i & 3, i), i);
        }
        due("21st", plain(x, 0, 5), FULL);
        due("21st, wrong too", x.addDish(0, 0, 5, 15, 0, 1), INVALID);
        due("dishes", x.count(0), 20);
        due("undo", x.undo(), 4);
        due("dishes after undo", x.count(0), 19);
    }

    private static void removeDish() {
        FoldedMenu x = new FoldedMenu();
        due("no dish", x.removeDish(0), INVALID);
        plain(x, 0, 11);
        x.addDish(1, 22, 22, 3, 5, 4);
        x.addDish(2, 33, 33, 7, 6, 5);
        x.setDish(2, 6, 0);
        due("-1", x.removeDish(-1), INVALID);
        due("3", x.removeDish(3), INVALID);
        due("greatest", x.removeDish(MAX), INVALID);
        due("least", x.removeDish(MIN), INVALID);
        due("history", x.count(14), 4);
        due("removeDish(0)", x.removeDish(0), 2);
        int[] moved = {2, 33, 33, 7, 6, 5, 0};
        for (int what = 0; what < 7; what++) {
            due("moved dish " + what, x.dish(1, what), moved[what]);
        }
        due("dish(0, 2)", x.dish(0, 2), 22);
        due("dish(2, 0)", x.dish(2, 0), INVALID);
        due("removeDish(1)", x.removeDish(1), 1);
        due("left", x.dish(0, 2), 22);
        due("undo", x.undo(), 4);
        due("again there", x.dish(1, 2), 33);
        due("not the snapshot's", x.take(0), 1);
        x.removeDish(0);
        x.removeDish(0);
        due("new one is on offer", plain(x, 0, 5), 0);
        due("on offer", x.dish(0, 6), 1);
    }

    private static void removedIsGone() {
        FoldedMenu x = new FoldedMenu();
        x.addDish(0, 10, 10, 15, 0, 1);
        x.addDish(0, 10, 9999, 15, 255, 1);
        x.removeDish(1);
        due("printed", x.count(1), 1);
        due("column", x.count(6), 2);
        due("key", x.count(8), NONE);
        due("for a guest", x.printedFor(0), 1);
        due("best set", x.bestSet(0, 3, 4, 0), 10);
        due("replacement", x.replacement(0), NONE);
        due("no dish", x.dish(1, 8), INVALID);
    }

    private static void setDish() {
        FoldedMenu x = new FoldedMenu();
        due("no dish", x.setDish(0, 0, 0), INVALID);
        x.addDish(1, 20, 30, 3, 4, 2);
        plain(x, 0, 7);
        int[] first = {1, 20, 30, 3, 4, 2, 1};
        int[] low = {0, 1, 1, 1, 0, 1, 0};
        int[] high = {3, 99, 9999, 15, 255, 5, 1};
        for (int what = 0; what < 7; what++) {
            due("low " + what, x.setDish(0, what, low[what]), first[what]);
            due("below " + what, x.setDish(0, what, low[what] - 1), INVALID);
            due("high " + what, x.setDish(0, what, high[what]), low[what]);
            due("above " + what, x.setDish(0, what, high[what] + 1), INVALID);
            due("least " + what, x.setDish(0, what, MIN), INVALID);
            due("most " + what, x.setDish(0, what, MAX), INVALID);
            due("same " + what, x.setDish(0, what, high[what]), high[what]);
            due("is " + what, x.dish(0, what), high[what]);
        }
        due("what -1", x.setDish(0, -1, 1), INVALID);
        due("what 7", x.setDish(0, 7, 1), INVALID);
        due("what most", x.setDish(0, MAX, 1), INVALID);
        due("dish 2", x.setDish(2, 0, 0), INVALID);
        due("dish -1", x.setDish(-1, 0, 0), INVALID);
        due("dish most", x.setDish(MAX, 0, 0), INVALID);
        due("dish 1 is as it was", x.dish(1, 2), 7);
        due("undo", x.undo(), 4);
        due("undo", x.undo(), 3);
        due("undone", x.dish(0, 6), 0);
    }

    private static void setCard() {
        FoldedMenu x = new FoldedMenu();
        int[] first = {0, 40, 5, 1, 2, 0};
        int[] low = {0, 20, 1, 0, 0, 0};
        int[] high = {3, 60, 9, 2, 3, 255};
        for (int what = 0; what < 6; what++) {
            due("low " + what, x.setCard(what, low[what]), first[what]);
            due("below " + what, x.setCard(what, low[what] - 1), INVALID);
            due("high " + what, x.setCard(what, high[what]), low[what]);
            due("above " + what, x.setCard(what, high[what] + 1), INVALID);
            due("least " + what, x.setCard(what, MIN), INVALID);
            due("most " + what, x.setCard(what, MAX), INVALID);
            due("is " + what, x.card(what), high[what]);
        }
        due("what -1", x.setCard(-1, 0), INVALID);
        due("what 6", x.setCard(6, 0), INVALID);
        due("what most", x.setCard(MAX, 0), INVALID);
        due("what least", x.setCard(MIN, 0), INVALID);
        due("undo", x.undo(), 4);
        due("undone", x.card(5), 0);
    }

    private static void setSide() {
        FoldedMenu x = new FoldedMenu();
        int[] first = {0, 0, 1, 1};
        for (int course = 0; course < 4; course++) {
            due("same", x.setSide(course, first[course]), first[course]);
            due("other", x.setSide(course, 1 - first[course]), first[course]);
            due("card", x.card(6 + course), 1 - first[course]);
        }
        due("course -1", x.setSide(-1, 0), INVALID);
        due("course 4", x.setSide(4, 0), INVALID);
        due("course 32", x.setSide(32, 0), INVALID);
        due("side -1", x.setSide(0, -1), INVALID);
        due("side 2", x.setSide(0, 2), INVALID);
        due("least", x.setSide(MIN, MIN), INVALID);
        for (int course = 0; course < 4; course++) {
            due("card", x.card(6 + course), 1 - first[course]);
        }
        due("undo", x.undo(), 4);
        due("undone", x.card(9), 1);
    }

    private static void arrange() {
        FoldedMenu x = new FoldedMenu();
        due("empty", x.arrange(), 0);
        for (int course = 0; course < 4; course++) {
            due("all on the left side", x.card(6 + course), 0);
        }
        due("an action", x.count(14), 1);
        plain(x, 0, 10);
        plain(x, 3, 10);
        due("unbalanced", x.count(11), 0);
        due("arrange", x.arrange(), 0);
        due("way", x.card(6), 1);
        due("way", x.card(9), 0);
        due("even", x.count(11), 1);
        due("same again", x.arrange(), 0);
        due("an action too", x.count(14), 5);
        due("undo", x.undo(), 4);
        due("undo", x.undo(), 3);
        due("undone", x.card(6), 0);
    }

    private static void choose() {
        FoldedMenu x = new FoldedMenu();
        plain(x, 0, 10);
        plain(x, 0, 90);
        plain(x, 2, 95);
        plain(x, 0, 100);
        x.addDish(0, 10, 99, 2, 0, 1);
        due("side -1", x.choose(-1, 3, 2), INVALID);
        due("side 2", x.choose(2, 3, 2), INVALID);
        due("lines -1", x.choose(0, -1, 2), INVALID);
        due("lines 151", x.choose(0, 151, 2), INVALID);
        due("lines most", x.choose(0, MAX, 2), INVALID);
        due("column 0", x.choose(0, 3, 0), INVALID);
        due("column 5", x.choose(0, 3, 5), INVALID);
        due("no such set", x.choose(0, 2, 2), STATE);
        due("no such set of most lines", x.choose(1, 150, 4), STATE);
        due("history", x.count(14), 5);
        due("choose", x.choose(0, 3, 2), 90);
        int[] offered = {0, 1, 1, 1, 1};
        for (int dish = 0; dish < 5; dish++) {
            due("offered " + dish, x.dish(dish, 6), offered[dish]);
        }
        due("the empty set", x.choose(0, 0, 4), 0);
        int[] then = {0, 0, 1, 0, 1};
        for (int dish = 0; dish < 5; dish++) {
            due("offered then " + dish, x.dish(dish, 6), then[dish]);
        }
        due("those not on offer too", x.choose(0, 7, 4), 200);
        due("on offer again", x.dish(0, 6), 1);
        due("undo", x.undo(), 4);
        due("undone", x.dish(0, 6), 0);
    }

    private static void snapshots() {
        FoldedMenu x = new FoldedMenu();
        for (int slot : new int[] {-1, 2, MIN, MAX, 32}) {
            due("take(" + slot + ")", x.take(slot), INVALID);
            due("restore(" + slot + ")", x.restore(slot), INVALID);
        }
        due("history", x.count(14), 0);
        plain(x, 0, 10);
        plain(x, 1, 20);
        x.setDish(1, 6, 0);
        due("take(1)", x.take(1), 1);
        due("snapshots", x.count(13), 1);
        due("restore(0)", x.restore(0), STATE);
        x.setCard(1, 55);
        x.setSide(0, 1);
        x.setDish(0, 2, 77);
        x.setDish(1, 6, 1);
        plain(x, 2, 30);
        due("take(0)", x.take(0), 3);
        due("snapshots", x.count(13), 2);
        due("restore(1)", x.restore(1), 1);
        due("dishes", x.count(0), 2);
        due("price", x.dish(0, 2), 10);
        due("offer", x.dish(1, 6), 0);
        due("width", x.card(1), 40);
        due("side", x.card(6), 0);
        due("snapshots stay", x.count(13), 2);
        x.setDish(0, 2, 5);
        due("it stays as it is", x.restore(1), 1);
        due("price", x.dish(0, 2), 10);
        due("the other one", x.restore(0), 3);
        due("price", x.dish(0, 2), 77);
        due("width", x.card(1), 55);
        due("side", x.card(6), 1);
        due("in place of one", x.take(1), 3);
        due("snapshots", x.count(13), 2);
        due("restore(1)", x.restore(1), 3);
        due("undo", x.undo(), 4);
        due("undo", x.undo(), 3);
        due("the older snapshot", x.restore(1), 1);
    }

    private static void undo() {
        FoldedMenu x = new FoldedMenu();
        due("empty", x.undo(), STATE);
        x.append('x');
        plain(x, 0, 10);
        x.take(0);
        due("states", x.count(14), 2);
        due("undo", x.undo(), 1);
        due("no snapshot", x.count(13), 0);
        due("restore", x.restore(0), STATE);
        due("text stays", x.count(15), 1);
        due("undo", x.undo(), 0);
        due("no dish", x.count(0), 0);
        due("undo", x.undo(), STATE);
    }

    private static void undoKeepsFive() {
        FoldedMenu x = new FoldedMenu();
        for (int i = 1; i <= 9; i++) {
            x.setCard(1, 20 + i);
            due("states", x.count(14), Math.min(i, 5));
        }
        for (int i = 8; i >= 4; i--) {
            due("undo", x.undo(), i - 4);
            due("width", x.card(1), 20 + i);
        }
        due("undo", x.undo(), STATE);
        due("width", x.card(1), 24);
        x.setCard(1, 24);
        due("an action that changes nothing", x.count(14), 1);
        x.setCard(1, 19);
        x.count(0);
        x.bestSides(0);
        x.evenSeasons();
        x.printedFor(1);
        x.clearText();
        x.append(5);
        due("no actions", x.count(14), 1);
    }

    private static void text() {
        FoldedMenu x = new FoldedMenu();
        for (int character : new int[] {0, -1, 256, MIN, MAX}) {
            due("append(" + character + ")", x.append(character), INVALID);
        }
        due("append(1)", x.append(1), 1);
        due("append(255)", x.append(255), 2);
        for (int i = 3; i <= 140; i++) {
            due("append", x.append(32), i);
        }
        due("141st", x.append(32), FULL);
        due("141st, wrong too", x.append(0), INVALID);
        due("length", x.count(15), 140);
        due("clearText", x.clearText(), 140);
        due("clearText", x.clearText(), 0);
        due("length", x.count(15), 0);
        due("history", x.count(14), 0);
        due("append", x.append(32), 1);
    }

    private static void load() {
        FoldedMenu x = new FoldedMenu();
        due("no text", x.load(), 0);
        due("an action", x.count(14), 1);
        String text = " 3 : 99 $ 9999 w a s p + h g f e d c b a * 5 ; 0:1$1a+a*1;2:10$10*3;1:7$8+hc;1:2$3; ";
        write(x, text);
        due("load", x.load(), 5);
        int[][] dishes = {{3, 99, 9999, 15, 255, 5, 1}, {0, 1, 1, 4, 1, 1, 1}, {2, 10, 10, 15, 0, 3, 1},
            {1, 7, 8, 15, 132, 2, 1}, {1, 2, 3, 15, 0, 2, 1}};
        for (int dish = 0; dish < 5; dish++) {
            for (int what = 0; what < 7; what++) {
                due("loaded (" + dish + ", " + what + ")", x.dish(dish, what), dishes[dish][what]);
            }
        }
        due("text", x.count(15), 0);
        due("one action", x.count(14), 2);
        due("undo", x.undo(), 1);
        due("undone", x.count(0), 0);
        due("text after undo", x.count(15), 0);
    }

    private static void loadErrors() {
        String[] texts = {"x", "0", "0:", "0:1", "0:1$", "0:1$1", "4:1$1;", " 4:1$1;", "00:1$1;", "0;", "0:0$1;",
            "0:100$1;", "0:01$1;", "0:1$0;", "0:1$10000;", "0:1$01;", "0:1$1x;", "0:1$1pp;", "0:1$1p s p;",
            "0:1$1P;", "0:1$1+;", "0:1$1+i;", "0:1$1+aba;", "0:1$1*;", "0:1$1*0;", "0:1$1*6;", "0:1$1*02;",
            "0:1$1*2", "0:1$1*2+a;", "0:1$1+ap;", "0:1$1+a+b;", "0:1$1;x", "0:1$1;;", "0:1 0$1;", "0 1:1$1;",
            "0:1$1 0;", "0:1$99999999999999999999;", "0:1$1p 5;", "-1:1$1;", "0:1$1+", "0:1$1+ a", "0:1$1 * 2 2;",
            "0::1$1;", "0:1$$1;", "4", "10:1$1;", "0:4294967297$1;", "0:1$1*5*5;", "0:1$1 ps w a s;", "0:1$1*3p;"};
        int[] at = {0, 1, 2, 3, 4, 5, 0, 1, 0, 1, 2,
            2, 2, 4, 4, 4, 5, 6, 9,
            5, 6, 6, 8, 6, 6, 6, 6,
            7, 7, 7, 7, 6, 6, 4, 2,
            6, 4, 7, 0, 6, 8, 10,
            2, 4, 0, 0, 2, 7, 13, 7};
        for (int i = 0; i < texts.length; i++) {
            FoldedMenu x = new FoldedMenu();
            write(x, texts[i]);
            due("load " + texts[i], x.load(), -1000 - at[i]);
            due("dishes after " + texts[i], x.count(0), 0);
            due("text after " + texts[i], x.count(15), texts[i].length());
            due("history after " + texts[i], x.count(14), 0);
            String ahead = "3:99$9999+ab;";
            write(x, ahead + texts[i]);
            due("load behind an item " + texts[i], x.load(), -1000 - at[i] - ahead.length());
            due("no dish either", x.count(0), 0);
        }
        FoldedMenu x = new FoldedMenu();
        for (int character : new int[] {1, 9, 31, 33, 127, 160, 255}) {
            x.clearText();
            x.append(' ');
            x.append(character);
            due("character " + character, x.load(), -1001);
        }
    }

    private static void loadRoom() {
        FoldedMenu x = new FoldedMenu();
        StringBuilder items = new StringBuilder();
        for (int i = 0; i < 20; i++) {
            items.append("1:1$1;");
        }
        write(x, items + " 0:1$1;");
        due("21st", x.load(), -1121);
        write(x, items + "  9");
        due("21st, whatever it is", x.load(), -1122);
        write(x, items + " x");
        due("no item", x.load(), -1121);
        due("dishes", x.count(0), 0);
        write(x, items + "  ");
        due("20", x.load(), 20);
        due("dishes", x.count(0), 20);
        write(x, "  00");
        due("no room", x.load(), -1002);
        write(x, "  ");
        due("no items", x.load(), 0);
        x.removeDish(4);
        write(x, "2:2$2;0:1$1;");
        due("one fits", x.load(), -1006);
        due("dishes", x.count(0), 19);
        write(x, "2:2$2;");
        due("one fits", x.load(), 1);
        due("last", x.dish(19, 0), 2);
    }

    /** What stood behind the text's end, or has no place behind it, is not read. */
    private static void loadEnds() {
        FoldedMenu x = new FoldedMenu();
        write(x, "0:1$1999*299;");
        String[] ends = {"0", "0:1", "0:1$1", "0:1$1*2", "0:1$1p", "0:1$1+a", "0:1$1+"};
        for (String end : ends) {
            write(x, "0123456789 psaw abcdefgh ;;;;");
            write(x, end);
            due("load " + end, x.load(), -1000 - end.length());
            String full = " ".repeat(140 - end.length()) + end;
            write(x, full);
            due("load full " + end, x.load(), -1140);
            due("text is kept", x.count(15), 140);
        }
        write(x, " ".repeat(134) + "0:1$1;");
        due("a full text", x.load(), 1);
    }

    private static void count() {
        FoldedMenu x = new FoldedMenu();
        for (int what : new int[] {-1, 16, MIN, MAX}) {
            due("count(" + what + ")", x.count(what), INVALID);
        }
        x.addDish(0, 20, 45, 15, 5, 2);
        x.addDish(0, 31, 120, 15, 0, 1);
        x.addDish(1, 33, 1250, 15, 1, 3);
        x.addDish(2, 10, 30, 3, 128, 2);
        x.addDish(3, 60, 99, 12, 6, 5);
        x.addDish(3, 12, 80, 15, 0, 1);
        x.append(7);
        int[] counts = {6, 5, 9, 9, 27, 22, 4, 3, 1, 2, 2, 1, 1525, 0, 5, 1};
        for (int what = 0; what < counts.length; what++) {
            due("count(" + what + ")", x.count(what), counts[what]);
        }
        x.setDish(2, 6, 0);
        due("column without the dearest", x.count(6), 3);
        x.setCard(0, 2);
        due("column of both sides", x.count(6), 3);
        x.setDish(1, 6, 0);
        due("column", x.count(6), 2);
        due("prices", x.count(12), 45 + 99 + 80);
        x.setCard(2, 1);
        due("limit 1", x.count(1), 2);
        FoldedMenu y = new FoldedMenu();
        int[] prices = {1, 9, 10, 99, 100, 999, 1000, 9999};
        for (int i = 0; i < prices.length; i++) {
            due("price", plain(y, i & 3, prices[i]), i);
            due("column for " + prices[i], y.count(6), i / 2 + 1);
        }
    }

    private static void key() {
        FoldedMenu x = new FoldedMenu();
        x.addDish(0, 10, 10, 15, 1, 5);
        x.addDish(2, 10, 10, 15, 8, 4);
        due("as many lines, less weight on the right side", x.count(8), 1);
        due("weight", x.count(4), 13);
        due("weight with the key", x.count(5), 14);
        x.setDish(1, 5, 5);
        due("as heavy too", x.count(8), 0);
        x.setDish(0, 5, 3);
        due("less weight on the left side", x.count(8), 0);
        plain(x, 0, 5);
        due("fewer lines", x.count(8), 1);
        due("a line of the key", x.account(1, 3), 1);
        x.setDish(1, 4, 8 + 16);
        due("three in a line", x.account(1, 3), 1);
        x.setDish(1, 4, 8 + 16 + 128);
        due("four", x.account(1, 3), 2);
        due("allergens", x.count(7), 4);
        x.setDish(1, 4, 255);
        due("eight", x.account(1, 3), 3);
        x.setCard(0, 1);
        x.setDish(1, 3, 1);
        due("of printed dishes alone", x.count(7), 1);
        due("on the empty side", x.count(8), 1);
        due("lines", x.count(3), 1);
        x.setDish(0, 6, 0);
        due("no key", x.count(8), NONE);
    }

    private static void fill() {
        FoldedMenu x = new FoldedMenu();
        // The left side has 8 lines; the right one 5 and two places behind its first dish.
        plain(x, 0, 1);
        plain(x, 0, 1);
        plain(x, 0, 1);
        plain(x, 1, 1);
        plain(x, 2, 1);
        plain(x, 3, 1);
        due("left", x.count(2), 10);
        due("right has one place for four", x.count(3), 6);
        due("gap", x.count(9), 4);
        x.setCard(4, 3);
        due("too many for three", x.count(10), 0);
        due("not even", x.count(11), 0);
        plain(x, 3, 1);
        due("two places for two", x.count(10), 2);
        due("even", x.count(11), 1);
        due("first line", x.dish(4, 8), 2);
        due("ahead of the second heading", x.dish(5, 8), 6);
        due("ahead of the last dish", x.dish(6, 8), 9);
        x.setCard(4, 0);
        due("no slack", x.count(10), 0);
        x.setCard(4, 1);
        due("just enough slack", x.count(10), 2);
        x.setDish(0, 1, 60);
        due("three on two places", x.count(10), 0);
        x.setCard(4, 2);
        due("three on two places", x.count(10), 3);
        due("the first one has one more", x.dish(5, 8), 7);
        due("the second one has the other", x.dish(6, 8), 10);
        x.setDish(6, 6, 0);
        x.setDish(5, 4, 1);
        due("the key is a place", x.count(8), 1);
        due("gap", x.count(9), 4);
        due("fill", x.count(10), 4);
        due("ahead of the key", x.line(1, 10, 0), 3);
        due("blank", x.line(1, 9, 0), 0);
        due("blank", x.line(1, 8, 0), 0);
        due("dish", x.line(1, 7, 0), 2);
        FoldedMenu y = new FoldedMenu();
        y.setCard(4, 3);
        y.addDish(0, 10, 10, 15, 1, 1);
        due("a side that begins with the key has no place", y.count(10), 0);
        due("lines", y.count(3), 1);
        due("gap", y.count(9), 2);
        y.setDish(0, 4, 0);
        due("an empty side has no place", y.count(10), 0);
    }

    private static void card() {
        FoldedMenu x = new FoldedMenu();
        for (int what : new int[] {-1, 10, MIN, MAX}) {
            due("card(" + what + ")", x.card(what), INVALID);
        }
        int[] values = {3, 21, 2, 0, 1, 129};
        for (int what = 0; what < 6; what++) {
            x.setCard(what, values[what]);
        }
        x.setSide(1, 1);
        x.setSide(2, 0);
        for (int what = 0; what < 6; what++) {
            due("card(" + what + ")", x.card(what), values[what]);
        }
        int[] sides = {0, 1, 0, 1};
        for (int course = 0; course < 4; course++) {
            due("side of " + course, x.card(6 + course), sides[course]);
        }
    }

    private static void dish() {
        FoldedMenu x = new FoldedMenu();
        due("no dish", x.dish(0, 0), INVALID);
        x.addDish(0, 35, 10, 15, 0, 2);
        x.addDish(0, 36, 10, 15, 0, 2);
        x.addDish(0, 35, 10, 2, 0, 2);
        x.addDish(0, 33, 10, 15, 128, 2);
        for (int what : new int[] {-1, 9, MIN, MAX}) {
            due("dish(0, " + what + ")", x.dish(0, what), INVALID);
        }
        for (int dish : new int[] {-1, 4, MIN, MAX}) {
            due("dish(" + dish + ", 0)", x.dish(dish, 0), INVALID);
        }
        due("35 + 3 + 2 = 40", x.dish(0, 7), 1);
        due("36 + 3 + 2 = 41", x.dish(1, 7), 2);
        due("not printed", x.dish(2, 7), 0);
        due("not printed", x.dish(2, 8), NONE);
        due("33 + 2 + 3 + 2 = 40", x.dish(3, 7), 1);
        due("behind the heading", x.dish(0, 8), 2);
        due("behind the spacing", x.dish(1, 8), 4);
        due("behind two lines and the spacing", x.dish(3, 8), 7);
        x.setCard(3, 2);
        due("spacing 2", x.dish(3, 8), 9);
        x.setCard(3, 0);
        due("spacing 0", x.dish(3, 8), 5);
        x.setDish(2, 3, 15);
        x.setDish(2, 2, 9999);
        due("a wider column", x.dish(0, 7), 2);
        x.setCard(1, 20);
        due("width 20: 35 + 3 + 4 = 42", x.dish(0, 7), 3);
        x.setDish(0, 1, 99);
        x.setDish(0, 4, 255);
        due("108 + 3 + 4 = 115", x.dish(0, 7), 6);
    }

    private static void fullSide() {
        FoldedMenu x = new FoldedMenu();
        for (int i = 0; i < 20; i++) {
            x.addDish(i / 5, 99, 9999, 15, 255, 5);
        }
        x.setCard(1, 20);
        x.setCard(3, 2);
        x.setSide(2, 0);
        x.setSide(3, 0);
        due("lines", x.count(2), 4 * 2 + 20 * 6 + 16 * 2);
        due("the last dish", x.dish(19, 8), 154);
        due("its last line", x.line(0, 159, 2), 5);
        due("no line", x.line(0, 160, 2), NONE);
        due("the key", x.count(3), 3);
        due("its lines' weights", x.count(5), 8);
        due("weight", x.count(4), 4 * 6 + 20 * 32);
    }

    private static void line() {
        FoldedMenu x = new FoldedMenu();
        x.addDish(1, 35, 10, 15, 3, 2);
        x.addDish(1, 36, 10, 15, 8 + 16 + 128, 3);
        int[][] lines = {{1, 1, 0, 6, 0, 0}, {1, 1, 1, 0, 0, 0}, {2, 0, 0, 4, 38, 0}, {2, 0, 1, 2, 0, 38},
            {0, NONE, 0, 0, 0, 0}, {2, 1, 0, 5, 40, 0}, {2, 1, 1, 3, 0, 38}};
        for (int index = 0; index < lines.length; index++) {
            for (int what = 0; what < 6; what++) {
                due("line(0, " + index + ", " + what + ")", x.line(0, index, what), lines[index][what]);
            }
        }
        due("no more lines", x.line(0, 7, 0), NONE);
        due("no more lines", x.line(0, MAX, 5), NONE);
        int[][] key = {{3, 0, 0, 3, 0, 0}, {3, 4, 1, 2, 0, 0}};
        for (int index = 0; index < 2; index++) {
            for (int what = 0; what < 6; what++) {
                due("line(1, " + index + ", " + what + ")", x.line(1, index, what), key[index][what]);
            }
        }
        due("no more lines", x.line(1, 2, 1), NONE);
        x.setDish(1, 1, 50);
        due("text in the last line", x.line(0, 6, 4), 14);
        due("leader in the last line", x.line(0, 6, 5), 24);
        x.setDish(0, 1, 10);
        due("one line: text", x.line(0, 2, 4), 13);
        due("one line: leader", x.line(0, 2, 5), 25);
        for (int bad : new int[] {-1, 2, MIN, MAX}) {
            due("side " + bad, x.line(bad, 0, 0), INVALID);
        }
        for (int bad : new int[] {-1, 6, MIN, MAX}) {
            due("what " + bad, x.line(0, 0, bad), INVALID);
            due("what " + bad + ", no line either", x.line(0, 999, bad), INVALID);
        }
        due("index -1", x.line(0, -1, 0), INVALID);
        due("index least", x.line(0, MIN, 0), INVALID);
    }

    private static void account() {
        FoldedMenu x = new FoldedMenu();
        x.addDish(2, 20, 45, 15, 5, 2);
        x.addDish(3, 60, 120, 15, 0, 1);
        x.addDish(3, 10, 30, 3, 128, 2);
        x.addDish(0, 12, 80, 15, 0, 1);
        x.addDish(0, 12, 80, 15, 64, 1);
        x.setCard(4, 3);
        int[][] parts = {{2, 2, 1, 2, 2}, {4, 4, 1, 0, 0}};
        for (int side = 0; side < 2; side++) {
            for (int what = 0; what < 5; what++) {
                due("account(" + side + ", " + what + ")", x.account(side, what), parts[side][what]);
            }
        }
        x.setDish(1, 1, 30);
        due("fill", x.account(0, 4), 1);
        due("fill of the other side", x.account(1, 4), 0);
        for (int bad : new int[] {-1, 2, MIN, MAX}) {
            due("side " + bad, x.account(bad, 0), INVALID);
        }
        for (int bad : new int[] {-1, 5, MIN, MAX}) {
            due("what " + bad, x.account(0, bad), INVALID);
        }
    }

    private static void why() {
        FoldedMenu x = new FoldedMenu();
        for (int i = 0; i < 3; i++) {
            x.addDish(1, 10, 10, 1, 4, 1);
        }
        for (int bad : new int[] {-1, 3, MIN, MAX}) {
            due("why(" + bad + ")", x.why(bad), INVALID);
        }
        due("printed", x.why(2), 0);
        x.setCard(2, 2);
        due("limit", x.why(2), 4);
        due("limit not for the second one", x.why(1), 0);
        x.setCard(5, 6);
        due("guest", x.why(2), 3);
        x.setCard(0, 1);
        due("season", x.why(2), 2);
        x.setDish(2, 6, 0);
        due("offer", x.why(2), 1);
        x.setCard(0, 0);
        x.setCard(5, 0);
        x.setDish(2, 6, 1);
        x.setDish(0, 6, 0);
        due("the limit isn't reached by one not on offer", x.why(2), 0);
        due("offer", x.why(0), 1);
    }

    private static void replacement() {
        FoldedMenu x = new FoldedMenu();
        plain(x, 1, 10);
        plain(x, 1, 10);
        plain(x, 2, 10);
        plain(x, 1, 10);
        plain(x, 1, 10);
        plain(x, 1, 10);
        for (int bad : new int[] {-1, 6, MIN, MAX}) {
            due("replacement(" + bad + ")", x.replacement(bad), INVALID);
        }
        due("all are printed", x.replacement(0), NONE);
        x.setCard(2, 1);
        x.setDish(1, 6, 0);
        x.setDish(3, 3, 8);
        x.setCard(5, 1);
        x.setDish(4, 4, 1);
        due("the first that would be", x.replacement(0), 5);
        due("of its own course", x.replacement(2), NONE);
        due("not printed", x.replacement(1), STATE);
        due("not printed", x.replacement(5), STATE);
        x.setCard(5, 0);
        due("an earlier one", x.replacement(0), 4);
        due("nothing changed", x.dish(0, 6), 1);
        due("nothing changed", x.why(0), 0);
        due("history", x.count(14), 5);
    }

    private static void evenSeasons() {
        FoldedMenu x = new FoldedMenu();
        due("empty", x.evenSeasons(), 15);
        x.addDish(0, 10, 10, 3, 0, 1);
        x.addDish(3, 10, 10, 6, 0, 1);
        due("1 and 3", x.evenSeasons(), 2 + 8);
        x.setDish(0, 3, 1);
        x.setDish(1, 3, 2);
        due("2 and 3", x.evenSeasons(), 12);
        x.setDish(0, 4, 4);
        due("the key", x.evenSeasons(), 12);
        x.setCard(5, 4);
        due("the guest", x.evenSeasons(), 13);
        due("the season stays", x.card(0), 0);
        due("history", x.count(14), 5);
        FoldedMenu y = new FoldedMenu();
        plain(y, 0, 10);
        plain(y, 0, 10);
        plain(y, 2, 10);
        plain(y, 3, 10);
        due("filled", y.evenSeasons(), 15);
        y.setCard(4, 0);
        due("not filled", y.evenSeasons(), 0);
    }

    private static void printedFor() {
        FoldedMenu x = new FoldedMenu();
        x.addDish(0, 10, 10, 15, 1, 1);
        x.addDish(0, 10, 10, 15, 2, 1);
        x.addDish(1, 10, 10, 15, 3, 1);
        x.addDish(1, 10, 10, 2, 0, 1);
        x.addDish(1, 10, 10, 15, 128, 1);
        x.setCard(5, 2);
        due("0", x.printedFor(0), 4);
        due("1", x.printedFor(1), 2);
        due("255", x.printedFor(255), 0);
        due("128", x.printedFor(128), 3);
        for (int bad : new int[] {-1, 256, MIN, MAX}) {
            due("printedFor(" + bad + ")", x.printedFor(bad), INVALID);
        }
        due("the guest stays", x.card(5), 2);
        x.setCard(2, 1);
        due("limit", x.printedFor(4), 2);
        due("limit behind the guest", x.printedFor(1), 2);
        x.setCard(0, 1);
        due("season", x.printedFor(3), 1);
    }

    private static void bestSides() {
        FoldedMenu x = new FoldedMenu();
        for (int bad : new int[] {-1, 4, MIN, MAX}) {
            due("bestSides(" + bad + ")", x.bestSides(bad), INVALID);
        }
        due("empty", x.bestSides(0), 0);
        due("empty", x.bestSides(3), 1);
        // Alone on a side it can't be even; with nothing even the weights tell, then the number.
        x.addDish(2, 10, 10, 15, 0, 5);
        due("one course", x.bestSides(0), 0);
        due("difference", x.bestSides(1), 13);
        due("longer side", x.bestSides(2), 3);
        due("not even", x.bestSides(3), 0);
        x.addDish(1, 99, 10, 15, 0, 1);
        due("three lines and one", x.bestSides(0), 2);
        due("difference", x.bestSides(1), 2);
        due("longer side", x.bestSides(2), 5);
        due("not even", x.bestSides(3), 0);
        due("smallest number", x.bestSides(0), 2);
        x.addDish(0, 10, 10, 15, 0, 5);
        due("even ahead of the weights", x.bestSides(3), 0);
        due("nothing changes", x.card(8), 1);
        due("history", x.count(14), 3);
    }

    private static void bestSet() {
        FoldedMenu x = new FoldedMenu();
        int[] good = {0, 3, 2, 0};
        int[][] bad = {{-1, 2, MAX}, {-1, 151, MIN}, {0, 5, MIN}, {-1, 3, MAX}};
        for (int i = 0; i < 4; i++) {
            for (int value : bad[i]) {
                int[] a = good.clone();
                a[i] = value;
                due("bestSet bad " + i + " " + value, x.bestSet(a[0], a[1], a[2], a[3]), INVALID);
            }
        }
        due("the empty set", x.bestSet(1, 0, 4, 0), 0);
        due("the empty set", x.bestSet(1, 0, 4, 2), 0);
        due("no set", x.bestSet(1, 1, 4, 0), NONE);
        due("no set", x.bestSet(1, 150, 4, 2), NONE);
        plain(x, 0, 50);
        plain(x, 2, 999);
        x.addDish(1, 35, 60, 15, 0, 1);
        plain(x, 0, 1000);
        due("one dish", x.bestSet(0, 3, 2, 0), 60);
        due("sum", x.bestSet(0, 3, 2, 1), 60);
        due("set", x.bestSet(0, 3, 2, 2), 4);
        due("the column makes it longer", x.bestSet(0, 3, 3, 0), 50);
        due("a wider column", x.bestSet(0, 3, 4, 0), 1000);
        due("two courses", x.bestSet(0, 6, 2, 2), 5);
        due("spacing", x.bestSet(0, 5, 4, 2), 9);
        x.setCard(2, 1);
        due("limit", x.bestSet(0, 5, 4, 0), NONE);
        x.setDish(3, 6, 0);
        due("not on offer", x.bestSet(0, 3, 4, 2), 8);
        x.setDish(3, 3, 8);
        due("season", x.bestSet(0, 3, 4, 2), 1);
        x.setDish(0, 4, 2);
        x.setCard(5, 2);
        due("guest", x.bestSet(0, 3, 4, 2), NONE);
        due("the other side", x.bestSet(1, 3, 3, 2), 2);
        due("too narrow", x.bestSet(1, 3, 2, 2), NONE);
        plain(x, 3, 9);
        due("column 1", x.bestSet(1, 3, 1, 2), 16);
        x.setSide(1, 1);
        due("sides as they are now", x.bestSet(1, 7, 3, 2), 6);
        due("nothing changes", x.dish(3, 6), 0);
    }

    private static void bestSetOrder() {
        FoldedMenu x = new FoldedMenu();
        plain(x, 1, 10);
        plain(x, 0, 10);
        plain(x, 1, 10);
        plain(x, 0, 10);
        // On the side the order is 1, 3, 0, 2.
        due("not the last ones", x.bestSet(0, 3, 2, 2), 2);
        due("not those of course 1", x.bestSet(0, 5, 2, 2), 10);
        due("not the last one", x.bestSet(0, 8, 2, 2), 11);
        due("not 2, then not 0 but 3", x.bestSet(0, 6, 2, 2), 3);
        x.setDish(2, 2, 11);
        due("the sum goes first", x.bestSet(0, 3, 2, 2), 4);
        FoldedMenu y = new FoldedMenu();
        for (int i = 0; i < 20; i++) {
            y.addDish(0, 99, 9999, 15, 255, 5);
        }
        y.setCard(1, 20);
        y.setCard(2, 9);
        y.setCard(3, 2);
        due("nine of six lines", y.bestSet(0, 72, 4, 0), 9 * 9999);
        due("the first nine", y.bestSet(0, 72, 4, 2), 511);
        due("ten are too many", y.bestSet(0, 80, 4, 2), NONE);
        FoldedMenu z = new FoldedMenu();
        for (int i = 0; i < 18; i++) {
            z.addDish(i / 9, 99, 9999, 15, 255, 5);
        }
        plain(z, 1, 2);
        z.setCard(1, 20);
        z.setCard(2, 9);
        z.setCard(3, 2);
        due("144 lines", z.bestSet(0, 144, 4, 0), 18 * 9999);
        due("144 lines", z.bestSet(0, 144, 4, 2), (1 << 18) - 1);
        due("136 lines", z.bestSet(0, 136, 4, 2), (1 << 17) - 1);
        due("139 lines", z.bestSet(0, 139, 4, 0), 17 * 9999 + 2);
    }
}
