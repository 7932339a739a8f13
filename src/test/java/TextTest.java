/** The boundaries that the part 'Text' of the document's terms names, and promises 12 to 14. */
public final class TextTest {
    private static final int INVALID = FoldedMenu.INVALID_ARGUMENT;

    public static void main(String[] args) {
        Due.runAll(TextTest.class);
    }

    private static void due(String call, long got, long want) {
        Due.due(call, got, want);
    }

    /** The text has an error at the position, alone, behind an item and behind a space. */
    private static void dueError(String text, int position) {
        dueErrorHere(text, position);
        dueErrorHere("3:99$9999aw+h*5;" + text, 16 + position);
        dueErrorHere(" " + text, 1 + position);
    }

    private static void dueErrorHere(String text, int position) {
        FoldedMenu x = new FoldedMenu();
        due("load " + text, Menus.load(x, text), -1000 - position);
        due("dishes after " + text, x.count(0), 0);
        due("text after " + text, x.count(15), text.length());
        due("history after " + text, x.count(14), 0);
    }

    /** The text is one item, which brings a dish with these values. */
    private static void dueItem(String text, int... values) {
        FoldedMenu x = new FoldedMenu();
        due("load " + text, Menus.load(x, text), 1);
        for (int what = 0; what < values.length; what++) {
            due("dish(0, " + what + ") of " + text, x.dish(0, what), values[what]);
        }
        due("on offer", x.dish(0, 6), 1);
        due("text after " + text, x.count(15), 0);
        due("history after " + text, x.count(14), 1);
    }

    private static String with(char character) {
        return new String(new char[] {character});
    }

    // ---- the text itself

    static void itHas140CharactersAtMost() {
        FoldedMenu x = new FoldedMenu();
        String item = "0:1$1;";
        Menus.write(x, " ".repeat(134) + item);
        due("the 141st", x.append(32), FoldedMenu.CAPACITY_EXCEEDED);
        due("load", x.load(), 1);
        due("room again", x.append(32), 1);
    }

    static void the140thCharacterIsRead() {
        FoldedMenu x = new FoldedMenu();
        due("an item to the end", Menus.load(x, " ".repeat(134) + "0:1$1;"), 1);
        due("an error in it", Menus.load(x, " ".repeat(134) + "0:1$1x"), -1139);
        due("missing behind it", Menus.load(x, " ".repeat(135) + "0:1$1"), -1140);
    }

    static void whatStoodBehindTheEndIsNotRead() {
        FoldedMenu x = new FoldedMenu();
        String[] ends = {"0", "0:", "0:1", "0:1$", "0:1$1", "0:1$1p", "0:1$1+", "0:1$1+a", "0:1$1*", "0:1$1*2"};
        for (String end : ends) {
            Menus.write(x, "0:1$1psaw+abcdefgh*2;;;;;;;");
            due("load " + end, Menus.load(x, end), -1000 - end.length());
        }
        Menus.write(x, "0:1$1;0:1$1;");
        due("one item", Menus.load(x, "0:1$1;"), 1);
    }

    // ---- no items

    static void anEmptyTextHasNoItems() {
        FoldedMenu x = new FoldedMenu();
        due("load", x.load(), 0);
        due("an action", x.count(14), 1);
        due("dishes", x.count(0), 0);
    }

    static void aTextOfSpacesHasNoItems() {
        for (int length : new int[] {1, 139, 140}) {
            FoldedMenu x = new FoldedMenu();
            due("load", Menus.load(x, " ".repeat(length)), 0);
            due("an action", x.count(14), 1);
            due("the text is empty", x.count(15), 0);
        }
    }

    static void noItemsAreReadOnAFullMenuToo() {
        due("empty", Menus.full().load(), 0);
        due("spaces", Menus.load(Menus.full(), "   "), 0);
    }

    // ---- an item and what it may leave out

    static void anItemHasTheUsualValues() {
        dueItem("1:2$3;", 1, 2, 3, 15, 0, 2);
    }

    static void eachPartMayBeLeftOut() {
        dueItem("1:2$3w;", 1, 2, 3, 8, 0, 2);
        dueItem("1:2$3+h;", 1, 2, 3, 15, 128, 2);
        dueItem("1:2$3*5;", 1, 2, 3, 15, 0, 5);
        dueItem("1:2$3p+a;", 1, 2, 3, 1, 1, 2);
        dueItem("1:2$3p*1;", 1, 2, 3, 1, 0, 1);
        dueItem("1:2$3+b*3;", 1, 2, 3, 15, 2, 3);
        dueItem("1:2$3s+c*4;", 1, 2, 3, 2, 4, 4);
    }

    static void anItemTakesNothingFromTheOneAhead() {
        FoldedMenu x = new FoldedMenu();
        due("load", Menus.load(x, "1:2$3s+c*4;0:9$8;"), 2);
        int[] second = {0, 9, 8, 15, 0, 2, 1};
        for (int what = 0; what < 7; what++) {
            due("dish(1, " + what + ")", x.dish(1, what), second[what]);
        }
    }

    static void partsHaveTheirOrder() {
        dueError("1:2$3+ap;", 7);
        dueError("1:2$3*2p;", 7);
        dueError("1:2$3*2+a;", 7);
        dueError("1:2$3+a+b;", 7);
        dueError("1:2$3*2*2;", 7);
        dueError("1$2:3;", 1);
        dueError(":2$3;", 0);
        dueError("1::2$3;", 2);
        dueError("1:2$$3;", 4);
        dueError("1:2$3;;", 6);
        dueError(";", 0);
    }

    static void manyItemsAreOneAction() {
        FoldedMenu x = new FoldedMenu();
        due("load", Menus.load(x, "0:1$1;1:1$1;2:1$1;"), 3);
        due("history", x.count(14), 1);
        due("undo", x.undo(), 0);
        due("dishes", x.count(0), 0);
    }

    static void itemsComeBehindTheDishes() {
        FoldedMenu x = Menus.rich();
        due("load", x.load(), 1);
        due("dishes", x.count(0), 5);
        due("course", x.dish(4, 0), 3);
        due("the one ahead", x.dish(3, 0), 1);
    }

    // ---- seasons and allergens

    static void eachSeasonHasItsLetter() {
        for (int season = 0; season < 4; season++) {
            dueItem("0:1$1" + "psaw".charAt(season) + ";", 0, 1, 1, 1 << season, 0, 2);
        }
        dueItem("0:1$1psaw;", 0, 1, 1, 15, 0, 2);
        dueItem("0:1$1wasp;", 0, 1, 1, 15, 0, 2);
    }

    static void eachAllergenHasItsLetter() {
        for (int allergen = 0; allergen < 8; allergen++) {
            dueItem("0:1$1+" + "abcdefgh".charAt(allergen) + ";", 0, 1, 1, 15, 1 << allergen, 2);
        }
        dueItem("0:1$1+abcdefgh;", 0, 1, 1, 15, 255, 2);
        dueItem("0:1$1+hgfedcba;", 0, 1, 1, 15, 255, 2);
    }

    static void otherLettersAreNotAllowed() {
        String seasons = "psaw+*;0123456789 ";
        String allergens = "abcdefgh ";
        for (char c = 1; c < 256; c++) {
            if (seasons.indexOf(c) < 0) {
                dueErrorHere("0:1$1" + with(c), 5);
            }
            if (allergens.indexOf(c) < 0) {
                dueErrorHere("0:1$1+" + with(c), 6);
            }
        }
    }

    static void aSeasonForTheSecondTimeIsAnError() {
        for (char c : "psaw".toCharArray()) {
            dueError("0:1$1" + c + c + ";", 6);
            dueError("0:1$1" + c + "  " + c + ";", 8);
        }
        dueError("0:1$1psawp;", 9);
        dueError("0:1$1wsaw;", 8);
    }

    static void anAllergenForTheSecondTimeIsAnError() {
        for (char c : "abcdefgh".toCharArray()) {
            dueError("0:1$1+" + c + c + ";", 7);
            dueError("0:1$1+" + c + " " + c + ";", 8);
        }
        dueError("0:1$1+hgfedcbah;", 14);
    }

    static void theSameLetterMayBeInBothAndInTheNextItem() {
        dueItem("0:1$1a+a;", 0, 1, 1, 4, 1, 2);
        due("in the next item", Menus.load(new FoldedMenu(), "0:1$1p+b;0:1$1p+b;"), 2);
    }

    static void behindAPlusThereIsAnAllergen() {
        dueError("0:1$1+;", 6);
        dueError("0:1$1+ ;", 7);
        dueError("0:1$1+*2;", 6);
        dueError("0:1$1++a;", 6);
        dueError("0:1$1+1;", 6);
    }

    // ---- what is missing at the end

    static void aMissingPieceIsAtTheEndOfTheText() {
        String item = "0:1$1p+a*2;";
        for (int length = 1; length < item.length(); length++) {
            dueError(item.substring(0, length), length);
            dueError(item.substring(0, length) + "  ", length + 2);
        }
        dueError("0:1$1*", 6);
        dueError("0:1$1+", 6);
        dueError("0:1$1+a", 7);
        dueError("0:1$1", 5);
    }

    // ---- numbers

    /** A number of an item with the text ahead and behind: its range, 0 ahead, and no number. */
    private static void dueNumber(String ahead, String behind, int what, int low, int high) {
        int first = ahead.length();
        for (int number : new int[] {low, high}) {
            FoldedMenu x = new FoldedMenu();
            due("load " + ahead + number, Menus.load(x, ahead + number + behind), 1);
            due("its value", x.dish(0, what), number);
        }
        String[] wrong = {"" + (high + 1), "0" + low, "0" + high, "00", "000" + low, "99999999999999999999",
            "4294967297", "2147483648", "" + (high + 65536), "-" + low, "+" + low, "x", ""};
        for (String number : wrong) {
            dueError(ahead + number + behind, first);
            dueError(ahead + "   " + number + behind, first + 3);
        }
        if (low > 0) {
            dueError(ahead + (low - 1) + behind, first);
        }
    }

    static void theCourseOfAnItem() {
        dueNumber("", ":1$1;", 0, 0, 3);
    }

    static void theLettersOfAnItem() {
        dueNumber("0:", "$1;", 1, 1, 99);
    }

    static void thePriceOfAnItem() {
        dueNumber("0:1$", "+a;", 2, 1, 9999);
    }

    static void theWeightOfAnItem() {
        dueNumber("0:1$1*", ";", 5, 1, 5);
    }

    static void aWrongNumberIsFoundBeforeWhatIsBehindIt() {
        dueError("4", 0);
        dueError("4x", 0);
        dueError("0:100", 2);
        dueError("0:1$0x", 4);
        dueError("0:1$1*6 6", 6);
        dueError("0:1$10000;", 4);
    }

    static void whatIsAheadIsFoundFirst() {
        dueError("x:100$0;", 0);
        dueError("0;100$0;", 1);
        dueError("0:1$1pp*9;", 6);
        dueError("0:1$1*9;x", 6);
    }

    static void theSingleDigit0IsANumber() {
        dueItem("0:1$1;", 0, 1, 1);
        dueError("00:1$1;", 0);
        dueError("01:1$1;", 0);
        dueItem("1:10$100;", 1, 10, 100);
    }

    static void onlyDigitsAreInNumbers() {
        dueError("0:1/$1;", 3);
        dueError("0:1:$1;", 3);
        dueError("0:1$1/;", 5);
        dueError("0:1$1:;", 5);
        dueItem("0:9$90;", 0, 9, 90);
    }

    /** As many digits as the text has room for, which would wrap around in an int or a long. */
    static void aNumberMayHaveManyDigits() {
        dueErrorHere("0:1$" + "9".repeat(136), 4);
        dueErrorHere("0:1$1" + "0".repeat(135), 4);
        dueErrorHere("0".repeat(140), 0);
        dueErrorHere("0:18446744073709551617$1;", 2);
        dueErrorHere("0:1$4294967296;", 4);
    }

    // ---- spaces

    static void spacesMayStandBetweenAll() {
        dueItem("   0  : 1 $  1  p s  +  a  b *  3  ;   ", 0, 1, 1, 3, 3, 3);
        dueItem(" 3 : 99 $ 9999 w a s p + h g f e d c b a * 5 ; ", 3, 99, 9999, 15, 255, 5);
    }

    static void spacesWithinANumberEndIt() {
        dueError("0 0:1$1;", 2);
        dueError("0:1 1$1;", 4);
        dueError("0:1$1 1;", 6);
        dueError("0:1$1*1 1;", 8);
        dueError("0:1$1  0;", 7);
    }

    static void onlyCode32IsASpace() {
        for (char c = 1; c < 256; c++) {
            if (c != ' ' && (c < '0' || c > '9')) {
                dueErrorHere(with(c), 0);
                dueErrorHere(" " + with(c) + "0:1$1;", 1);
                dueErrorHere("0:1$1;" + with(c), 6);
            }
        }
    }

    // ---- room

    private static FoldedMenu with19() {
        FoldedMenu x = Menus.full();
        x.removeDish(19);
        return x;
    }

    static void theTwentiethDishHasRoom() {
        FoldedMenu x = with19();
        due("load", Menus.load(x, "2:1$1;"), 1);
        due("dishes", x.count(0), 20);
        due("its course", x.dish(19, 0), 2);
    }

    static void theTwentyFirstDishHasNone() {
        FoldedMenu x = with19();
        due("load", Menus.load(x, "2:1$1; 3:1$1;"), -1007);
        due("dishes", x.count(0), 19);
        due("text", x.count(15), 13);
        due("history", x.count(14), 5);
        due("undo", x.undo(), 4);
        due("the removed one", x.dish(19, 2), 20);
    }

    static void twentyItemsHaveRoomInANewMenu() {
        FoldedMenu x = new FoldedMenu();
        String items = "1:1$1;".repeat(20);
        due("load", Menus.load(x, items), 20);
        due("dishes", x.count(0), 20);
        FoldedMenu y = new FoldedMenu();
        due("one more", Menus.load(y, items + "0:1$1;"), -1120);
        due("dishes", y.count(0), 0);
        due("spaces behind them", Menus.load(y, items + " ".repeat(20)), 20);
    }

    static void whateverTheCourseIsThereIsNoRoom() {
        for (String course : new String[] {"0", "3", "4", "00", "9999999999", "0x", "1:1$1;", "1"}) {
            due("load " + course, Menus.load(Menus.full(), "  " + course), -1002);
        }
    }

    static void withoutRoomAnotherCharacterIsStillAnError() {
        due("a letter", Menus.load(Menus.full(), " x"), -1001);
        due("a sign", Menus.load(Menus.full(), ";"), -1000);
    }

    static void anErrorAheadOfTheDishWithoutRoomIsFoundFirst() {
        due("in the twentieth", Menus.load(with19(), "2:1$1x;3:1$1;"), -1005);
        due("at its end", Menus.load(with19(), "2:1$1 3:1$1;"), -1006);
    }

    static void aRemovedDishMakesRoomForAnItem() {
        FoldedMenu x = Menus.full();
        due("no room", Menus.load(x, "2:1$1;"), -1000);
        x.removeDish(0);
        due("the text is still there", x.load(), 1);
    }

    // ---- append and clearText

    static void charactersFrom1To255AreKept() {
        FoldedMenu x = new FoldedMenu();
        due("0", x.append(0), INVALID);
        due("1", x.append(1), 1);
        due("255", x.append(255), 2);
        due("256", x.append(256), INVALID);
        due("length", x.count(15), 2);
    }

    static void anErrorKeepsTheTextToGoOnWith() {
        FoldedMenu x = new FoldedMenu();
        due("load", Menus.load(x, "0:1$1"), -1005);
        due("append", x.append(';'), 6);
        due("load then", x.load(), 1);
    }

    static void clearTextIsNoAction() {
        FoldedMenu x = new FoldedMenu();
        Menus.write(x, "0:1$1;");
        due("clearText", x.clearText(), 6);
        due("history", x.count(14), 0);
        due("load", x.load(), 0);
        due("dishes", x.count(0), 0);
    }
}
