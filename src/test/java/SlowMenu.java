import java.util.ArrayDeque;
import java.util.ArrayList;
import java.util.Deque;
import java.util.List;

/**
 * The document once more, in its plainest form and without regard to speed or room: every line is
 * made, every set is tried, every state is copied whole. ModelTest compares the program with it.
 */
final class SlowMenu {
    static final int NONE = -99;

    private static final int[] DISH_LOW = {0, 1, 1, 1, 0, 1, 0};
    private static final int[] DISH_HIGH = {3, 99, 9999, 15, 255, 5, 1};
    private static final int[] CARD_LOW = {0, 20, 1, 0, 0, 0, 0, 0, 0, 0};
    private static final int[] CARD_HIGH = {3, 60, 9, 2, 3, 255, 1, 1, 1, 1};

    private List<int[]> dishes = new ArrayList<>();
    private int[] card = {0, 40, 5, 1, 2, 0, 0, 0, 1, 1};
    private SlowMenu[] slots = new SlowMenu[2];
    private final Deque<SlowMenu> history = new ArrayDeque<>();
    private String text = "";

    // Filled by makeSides().
    private final List<List<int[]>> sides = new ArrayList<>();
    private int[][] accounts;
    private int keySide;
    private int gap;

    private SlowMenu copy() {
        SlowMenu copy = new SlowMenu();
        copy.put(this);
        copy.slots = slots.clone();
        return copy;
    }

    private void put(SlowMenu other) {
        dishes = new ArrayList<>();
        for (int[] dish : other.dishes) {
            dishes.add(dish.clone());
        }
        card = other.card.clone();
    }

    private void record() {
        history.addLast(copy());
        if (history.size() > 5) {
            history.removeFirst();
        }
    }

    private static boolean in(int low, int value, int high) {
        return value >= low && value <= high;
    }

    private boolean is(int dish) {
        return in(0, dish, dishes.size() - 1);
    }

    int addDish(int... values) {
        for (int i = 0; i < 6; i++) {
            if (!in(DISH_LOW[i], values[i], DISH_HIGH[i])) {
                return -1;
            }
        }
        if (dishes.size() == 20) {
            return -3;
        }
        record();
        dishes.add(new int[] {values[0], values[1], values[2], values[3], values[4], values[5], 1});
        return dishes.size() - 1;
    }

    int removeDish(int dish) {
        if (!is(dish)) {
            return -1;
        }
        record();
        dishes.remove(dish);
        return dishes.size();
    }

    int setDish(int dish, int what, int value) {
        if (!is(dish) || !in(0, what, 6) || !in(DISH_LOW[what], value, DISH_HIGH[what])) {
            return -1;
        }
        record();
        int previous = dishes.get(dish)[what];
        dishes.get(dish)[what] = value;
        return previous;
    }

    int setCard(int what, int value) {
        if (!in(0, what, 5) || !in(CARD_LOW[what], value, CARD_HIGH[what])) {
            return -1;
        }
        record();
        int previous = card[what];
        card[what] = value;
        return previous;
    }

    int setSide(int course, int side) {
        if (!in(0, course, 3) || !in(0, side, 1)) {
            return -1;
        }
        record();
        int previous = card[6 + course];
        card[6 + course] = side;
        return previous;
    }

    int arrange() {
        int way = bestWay();
        record();
        putWay(way);
        return Math.abs(weight(0) - weight(1));
    }

    int choose(int side, int lines, int column) {
        int sum = bestSet(side, lines, column, 0);
        if (sum < 0) {
            return sum == NONE ? -2 : sum;
        }
        int set = bestSet(side, lines, column, 2);
        record();
        for (int dish : candidates(side, column)) {
            dishes.get(dish)[6] = set >> dish & 1;
        }
        return sum;
    }

    int take(int slot) {
        if (!in(0, slot, 1)) {
            return -1;
        }
        record();
        slots[slot] = copy();
        return printed().size();
    }

    int restore(int slot) {
        if (!in(0, slot, 1)) {
            return -1;
        }
        if (slots[slot] == null) {
            return -2;
        }
        record();
        put(slots[slot]);
        return printed().size();
    }

    int undo() {
        if (history.isEmpty()) {
            return -2;
        }
        SlowMenu last = history.removeLast();
        put(last);
        slots = last.slots;
        return history.size();
    }

    int append(int character) {
        if (!in(1, character, 255)) {
            return -1;
        }
        if (text.length() == 140) {
            return -3;
        }
        text += (char) character;
        return text.length();
    }

    int clearText() {
        int length = text.length();
        text = "";
        return length;
    }

    /** An automaton, sign by sign; its states are what may come next. */
    int load() {
        List<int[]> items = new ArrayList<>();
        int[] item = null;
        int next = 0;
        int at = 0;
        while (at < text.length()) {
            char c = text.charAt(at);
            int letter = next == 4 ? "psaw".indexOf(c) : next == 5 || next == 6 ? "abcdefgh".indexOf(c) : -1;
            if (c == ' ') {
                at++;
            } else if (next == 0 || next == 2 || next == 3 || next == 7) {
                // 0 a course, 2 letters, 3 a price, 7 a weight
                int what = next == 0 ? 0 : next == 2 ? 1 : next == 3 ? 2 : 5;
                int end = at;
                while (end < text.length() && Character.isDigit(text.charAt(end)) && text.charAt(end) < 128) {
                    end++;
                }
                String digits = text.substring(at, end);
                if (digits.isEmpty() || digits.length() > 5 || digits.matches("0.+")
                        || !in(DISH_LOW[what], Integer.parseInt(digits), DISH_HIGH[what])
                        || what == 0 && dishes.size() + items.size() == 20) {
                    return -1000 - at;
                }
                if (what == 0) {
                    item = new int[] {0, 0, 0, 0, 0, 2, 1};
                }
                item[what] = Integer.parseInt(digits);
                next = next == 0 ? 1 : next == 2 ? 8 : next == 3 ? 4 : 9;
                at = end;
            } else if (next == 1 && c == ':') {
                next = 2;
                at++;
            } else if (next == 8 && c == '$') {
                next = 3;
                at++;
            } else if (letter >= 0 && (item[next == 4 ? 3 : 4] >> letter & 1) == 0) {
                item[next == 4 ? 3 : 4] |= 1 << letter;
                next = next == 5 ? 6 : next;
                at++;
            } else if (next == 4 && c == '+') {
                next = 5;
                at++;
            } else if ((next == 4 || next == 6) && c == '*') {
                next = 7;
                at++;
            } else if ((next == 4 || next == 6 || next == 9) && c == ';') {
                item[3] = item[3] == 0 ? 15 : item[3];
                items.add(item);
                next = 0;
                at++;
            } else {
                return -1000 - at;
            }
        }
        if (next != 0) {
            return -1000 - at;
        }
        record();
        dishes.addAll(items);
        text = "";
        return items.size();
    }

    private boolean mayBe(int dish) {
        return (dishes.get(dish)[3] >> card[0] & 1) == 1 && (dishes.get(dish)[4] & card[5]) == 0;
    }

    private boolean isPrinted(int dish) {
        int ahead = 0;
        for (int other = 0; other < dish; other++) {
            if (dishes.get(other)[0] == dishes.get(dish)[0] && mayBe(other) && dishes.get(other)[6] == 1) {
                ahead++;
            }
        }
        return mayBe(dish) && dishes.get(dish)[6] == 1 && ahead < card[2];
    }

    private List<Integer> printed() {
        List<Integer> printed = new ArrayList<>();
        for (int dish = 0; dish < dishes.size(); dish++) {
            if (isPrinted(dish)) {
                printed.add(dish);
            }
        }
        return printed;
    }

    private int column() {
        int column = 0;
        for (int dish : printed()) {
            column = Math.max(column, Integer.toString(dishes.get(dish)[2]).length());
        }
        return column;
    }

    private int textLength(int dish) {
        int[] d = dishes.get(dish);
        return d[1] + (d[4] == 0 ? 0 : 1 + Integer.bitCount(d[4]));
    }

    private int linesOf(int dish, int column) {
        int lines = 1;
        while (lines * card[1] < textLength(dish) + 3 + column) {
            lines++;
        }
        return lines;
    }

    private List<int[]> dishLines(int dish) {
        List<int[]> lines = new ArrayList<>();
        int left = textLength(dish);
        int count = linesOf(dish, column());
        for (int i = 0; i < count; i++) {
            int here = Math.min(left, card[1]);
            left -= here;
            int leader = i == count - 1 ? card[1] - here - column() : 0;
            lines.add(new int[] {2, dish, i, dishes.get(dish)[5] + (i == 0 ? 2 : 0), here, leader});
        }
        return lines;
    }

    private List<int[]> keyLines() {
        List<Integer> allergens = new ArrayList<>();
        for (int allergen = 0; allergen < 8; allergen++) {
            for (int dish : printed()) {
                if ((dishes.get(dish)[4] >> allergen & 1) == 1) {
                    allergens.add(allergen);
                    break;
                }
            }
        }
        List<int[]> lines = new ArrayList<>();
        for (int i = 0; i < allergens.size(); i += 3) {
            lines.add(new int[] {3, allergens.get(i), i / 3, Math.min(3, allergens.size() - i), 0, 0});
        }
        return lines;
    }

    private static int[] blank() {
        return new int[] {0, NONE, 0, 0, 0, 0};
    }

    private int weight(int side) {
        makeSides();
        return sides.get(side).stream().mapToInt(line -> line[3]).sum();
    }

    /** Blocks of lines; the spacing belongs to the block behind it. */
    private void makeSides() {
        List<List<List<int[]>>> blocks = List.of(new ArrayList<>(), new ArrayList<>());
        List<List<Boolean>> isPlace = List.of(new ArrayList<>(), new ArrayList<>());
        accounts = new int[2][5];
        for (int course = 0; course < 4; course++) {
            int side = card[6 + course];
            boolean isFirst = true;
            for (int dish : printed()) {
                if (dishes.get(dish)[0] != course) {
                    continue;
                }
                if (isFirst) {
                    List<int[]> heading = new ArrayList<>();
                    heading.add(new int[] {1, course, 0, 6, 0, 0});
                    heading.add(new int[] {1, course, 1, 0, 0, 0});
                    isPlace.get(side).add(!blocks.get(side).isEmpty());
                    blocks.get(side).add(heading);
                    accounts[side][0] += 2;
                }
                List<int[]> lines = dishLines(dish);
                accounts[side][1] += lines.size();
                for (int i = 0; i < card[3] && !isFirst; i++) {
                    lines.add(0, blank());
                    accounts[side][2]++;
                }
                isPlace.get(side).add(!isFirst);
                blocks.get(side).add(lines);
                isFirst = false;
            }
        }
        addKey(blocks, isPlace);
        addFill(blocks, isPlace);
    }

    private void join(List<List<List<int[]>>> blocks) {
        sides.clear();
        for (int side = 0; side < 2; side++) {
            List<int[]> lines = new ArrayList<>();
            for (List<int[]> block : blocks.get(side)) {
                lines.addAll(block);
            }
            sides.add(lines);
        }
    }

    private void addKey(List<List<List<int[]>>> blocks, List<List<Boolean>> isPlace) {
        List<int[]> key = keyLines();
        keySide = NONE;
        if (key.isEmpty()) {
            return;
        }
        join(blocks);
        int[] weights = new int[2];
        for (int side = 0; side < 2; side++) {
            for (int[] line : sides.get(side)) {
                weights[side] += line[3];
            }
        }
        int left = sides.get(0).size();
        int right = sides.get(1).size();
        keySide = left < right ? 0 : right < left ? 1 : weights[1] < weights[0] ? 1 : 0;
        isPlace.get(keySide).add(!blocks.get(keySide).isEmpty());
        blocks.get(keySide).add(key);
        accounts[keySide][3] = key.size();
    }

    /** Deals the blank lines out one by one, from the first place on and again. */
    private void addFill(List<List<List<int[]>>> blocks, List<List<Boolean>> isPlace) {
        join(blocks);
        int left = sides.get(0).size();
        int right = sides.get(1).size();
        gap = Math.abs(left - right);
        int side = left < right ? 0 : 1;
        List<Integer> places = new ArrayList<>();
        for (int i = 0; i < blocks.get(side).size(); i++) {
            if (isPlace.get(side).get(i)) {
                places.add(i);
            }
        }
        if (gap == 0 || places.isEmpty() || gap > places.size() * card[4]) {
            return;
        }
        for (int i = 0; i < gap; i++) {
            blocks.get(side).get(places.get(i % places.size())).add(0, blank());
        }
        accounts[side][4] = gap;
        join(blocks);
    }

    private boolean isEven() {
        makeSides();
        return sides.get(0).size() == sides.get(1).size();
    }

    private int longer() {
        makeSides();
        return Math.max(sides.get(0).size(), sides.get(1).size());
    }

    int count(int what) {
        makeSides();
        int prices = 0;
        for (int dish : printed()) {
            prices += dishes.get(dish)[2];
        }
        int allergens = 0;
        for (int[] line : keyLines()) {
            allergens += line[3];
        }
        switch (what) {
            case 0: return dishes.size();
            case 1: return printed().size();
            case 2: return sides.get(0).size();
            case 3: return sides.get(1).size();
            case 4: return weight(0);
            case 5: return weight(1);
            case 6: return column();
            case 7: return allergens;
            case 8: return keySide;
            case 9: return gap;
            case 10: return accounts[0][4] + accounts[1][4];
            case 11: return isEven() ? 1 : 0;
            case 12: return prices;
            case 13: return (slots[0] == null ? 0 : 1) + (slots[1] == null ? 0 : 1);
            case 14: return history.size();
            case 15: return text.length();
            default: return -1;
        }
    }

    int card(int what) {
        return in(0, what, 9) ? card[what] : -1;
    }

    int dish(int dish, int what) {
        if (!is(dish) || !in(0, what, 8)) {
            return -1;
        }
        if (what < 7) {
            return dishes.get(dish)[what];
        }
        makeSides();
        int lines = 0;
        int first = NONE;
        for (List<int[]> side : sides) {
            for (int i = 0; i < side.size(); i++) {
                if (side.get(i)[0] == 2 && side.get(i)[1] == dish) {
                    first = lines == 0 ? i : first;
                    lines++;
                }
            }
        }
        return what == 7 ? lines : first;
    }

    int line(int side, int index, int what) {
        if (!in(0, side, 1) || index < 0 || !in(0, what, 5)) {
            return -1;
        }
        makeSides();
        return index < sides.get(side).size() ? sides.get(side).get(index)[what] : NONE;
    }

    int account(int side, int what) {
        if (!in(0, side, 1) || !in(0, what, 4)) {
            return -1;
        }
        makeSides();
        return accounts[side][what];
    }

    int why(int dish) {
        if (!is(dish)) {
            return -1;
        }
        int[] d = dishes.get(dish);
        if (isPrinted(dish)) {
            return 0;
        }
        return d[6] == 0 ? 1 : (d[3] >> card[0] & 1) == 0 ? 2 : (d[4] & card[5]) != 0 ? 3 : 4;
    }

    int replacement(int dish) {
        if (!is(dish)) {
            return -1;
        }
        if (!isPrinted(dish)) {
            return -2;
        }
        List<Integer> before = printed();
        dishes.get(dish)[6] = 0;
        List<Integer> after = printed();
        dishes.get(dish)[6] = 1;
        after.removeAll(before);
        return after.isEmpty() ? NONE : after.get(0);
    }

    int evenSeasons() {
        int season = card[0];
        int seasons = 0;
        for (card[0] = 0; card[0] < 4; card[0]++) {
            seasons |= isEven() ? 1 << card[0] : 0;
        }
        card[0] = season;
        return seasons;
    }

    int printedFor(int guest) {
        if (!in(0, guest, 255)) {
            return -1;
        }
        int now = card[5];
        card[5] = guest;
        int number = printed().size();
        card[5] = now;
        return number;
    }

    private void putWay(int way) {
        for (int course = 0; course < 4; course++) {
            card[6 + course] = way >> course & 1;
        }
    }

    private int bestWay() {
        int[] now = card.clone();
        int best = 0;
        long bestRank = Long.MAX_VALUE;
        for (int way = 0; way < 16; way++) {
            putWay(way);
            long rank = ((isEven() ? 0L : 1L) << 50) + ((long) Math.abs(weight(0) - weight(1)) << 30)
                + ((long) longer() << 10) + way;
            if (rank < bestRank) {
                bestRank = rank;
                best = way;
            }
        }
        card = now;
        return best;
    }

    int bestSides(int what) {
        if (!in(0, what, 3)) {
            return -1;
        }
        int[] now = card.clone();
        int way = bestWay();
        putWay(way);
        int[] answers = {way, Math.abs(weight(0) - weight(1)), longer(), isEven() ? 1 : 0};
        card = now;
        return answers[what];
    }

    private List<Integer> candidates(int side, int column) {
        List<Integer> candidates = new ArrayList<>();
        for (int course = 0; course < 4; course++) {
            for (int dish = 0; dish < dishes.size(); dish++) {
                if (card[6 + course] == side && dishes.get(dish)[0] == course && mayBe(dish)
                        && Integer.toString(dishes.get(dish)[2]).length() <= column) {
                    candidates.add(dish);
                }
            }
        }
        return candidates;
    }

    private List<Integer> tried;
    private int triedColumn;
    private int triedLines;
    private int bestSum;
    private int bestDishes;

    int bestSet(int side, int lines, int column, int what) {
        if (!in(0, side, 1) || !in(0, lines, 150) || !in(1, column, 4) || !in(0, what, 2)) {
            return -1;
        }
        tried = candidates(side, column);
        triedColumn = column;
        triedLines = lines;
        bestSum = NONE;
        bestDishes = 0;
        trySets(tried.size() - 1, 0, 0, 0, new int[4]);
        return bestSum == NONE || what < 2 ? bestSum : bestDishes;
    }

    /** Tries sets without a candidate ahead of those with it, so that the first of equal ones is due. */
    private void trySets(int at, int set, int sum, int lines, int[] had) {
        if (at < 0) {
            if (lines == triedLines && sum > bestSum) {
                bestSum = sum;
                bestDishes = set;
            }
            return;
        }
        trySets(at - 1, set, sum, lines, had);
        int dish = tried.get(at);
        int[] d = dishes.get(dish);
        if (had[d[0]] < card[2]) {
            had[d[0]]++;
            int more = linesOf(dish, triedColumn) + (had[d[0]] == 1 ? 2 : card[3]);
            trySets(at - 1, set | 1 << dish, sum + d[2], lines + more, had);
            had[d[0]]--;
        }
    }
}
