/**
 * A menu card that is folded once. Promises are numbered as in the document.
 *
 * Everything that an object ever holds is made when it is made: the calls only use it again, since
 * all calls of a run live in one room.
 */
public final class FoldedMenu {
    public static final int INVALID_ARGUMENT = -1;
    public static final int ILLEGAL_STATE = -2;
    public static final int CAPACITY_EXCEEDED = -3;
    public static final int NONE = -99;

    private static final int DISHES = 20;
    private static final int COURSES = 4;
    private static final int SEASON_COUNT = 4;
    private static final int WAYS = 16;
    private static final int SLOTS = 2;
    private static final int STATES = 5;
    private static final int TEXT_ROOM = 140;
    private static final int MOST_LINES = 150;

    // What a dish has, as in setDish().
    private static final int COURSE = 0;
    private static final int LETTERS = 1;
    private static final int PRICE = 2;
    private static final int SEASONS = 3;
    private static final int ALLERGENS = 4;
    private static final int WEIGHT = 5;
    private static final int OFFER = 6;
    private static final int DISH_VALUES = 7;
    private static final int[] DISH_LOW = {0, 1, 1, 1, 0, 1, 0};
    private static final int[] DISH_HIGH = {3, 99, 9999, 15, 255, 5, 1};

    // What the card has, as in setCard().
    private static final int SEASON = 0;
    private static final int WIDTH = 1;
    private static final int LIMIT = 2;
    private static final int SPACING = 3;
    private static final int SLACK = 4;
    private static final int GUEST = 5;
    private static final int CARD_VALUES = 6;
    private static final int[] CARD_LOW = {0, 20, 1, 0, 0, 0};
    private static final int[] CARD_HIGH = {3, 60, 9, 2, 3, 255};

    // What a line is, as in line().
    private static final int BLANK = 0;
    private static final int HEADING_LINE = 1;
    private static final int DISH_LINE = 2;
    private static final int KEY_LINE = 3;

    // The parts of a side, as in account().
    private static final int HEADING_PART = 0;
    private static final int DISH_PART = 1;
    private static final int SPACING_PART = 2;
    private static final int KEY_PART = 3;
    private static final int FILL_PART = 4;
    private static final int PARTS = 5;

    private static final int HEADING_LINES = 2;
    private static final int HEADING_WEIGHT = 6;
    private static final int FIRST_LINE_EXTRA = 2;
    private static final int LEAST_LEADER = 3;
    private static final int KEY_LINE_ROOM = 3;

    private final State state = new State();
    private final History history = new History();
    private final Menu draft = new Menu();
    private final Reader reader = new Reader();
    private final Printing printing = new Printing();
    private final Fold fold = new Fold();
    private final Fold otherFold = new Fold();
    private final Blocks blocks = new Blocks();
    private final SetFinder finder = new SetFinder();

    /** Promise 1. */
    public FoldedMenu() {
    }

    // ---- dishes and card

    /** Promise 2. */
    public int addDish(int course, int letters, int price, int seasons, int allergens, int weight) {
        if (!isDishValue(COURSE, course) || !isDishValue(LETTERS, letters) || !isDishValue(PRICE, price)
                || !isDishValue(SEASONS, seasons) || !isDishValue(ALLERGENS, allergens)
                || !isDishValue(WEIGHT, weight)) {
            return INVALID_ARGUMENT;
        }
        if (state.menu.isFull()) {
            return CAPACITY_EXCEEDED;
        }
        history.record(state);
        int dish = state.menu.addOffered();
        state.menu.change(dish, COURSE, course);
        state.menu.change(dish, LETTERS, letters);
        state.menu.change(dish, PRICE, price);
        state.menu.change(dish, SEASONS, seasons);
        state.menu.change(dish, ALLERGENS, allergens);
        state.menu.change(dish, WEIGHT, weight);
        return dish;
    }

    /** Promise 3. */
    public int removeDish(int dish) {
        if (!state.menu.hasDish(dish)) {
            return INVALID_ARGUMENT;
        }
        history.record(state);
        state.menu.drop(dish);
        return state.menu.size();
    }

    /** Promise 4. */
    public int setDish(int dish, int what, int value) {
        if (!state.menu.hasDish(dish) || !isDishValue(what, value)) {
            return INVALID_ARGUMENT;
        }
        history.record(state);
        int previous = state.menu.valueOf(dish, what);
        state.menu.change(dish, what, value);
        return previous;
    }

    /** Promise 5. */
    public int setCard(int what, int value) {
        if (!isCardValue(what, value)) {
            return INVALID_ARGUMENT;
        }
        history.record(state);
        int previous = state.menu.setting(what);
        state.menu.changeSetting(what, value);
        return previous;
    }

    /** Promise 6. */
    public int setSide(int course, int side) {
        if (!inRange(course, 0, COURSES - 1) || !isSide(side)) {
            return INVALID_ARGUMENT;
        }
        history.record(state);
        int previous = sideIn(state.menu.way, course);
        state.menu.putCourse(course, side);
        return previous;
    }

    /** Promise 7. */
    public int arrange() {
        history.record(state);
        findPrinted(state.menu);
        state.menu.way = foldBestWay();
        return fold.difference();
    }

    /** Promise 8. */
    public int choose(int side, int lines, int column) {
        if (!areSetArguments(side, lines, column)) {
            return INVALID_ARGUMENT;
        }
        finder.find(state.menu, side, lines, column);
        if (!finder.hasFound()) {
            return ILLEGAL_STATE;
        }
        history.record(state);
        finder.offerFound(state.menu);
        return finder.prices();
    }

    // ---- snapshots

    /** Promise 9. */
    public int take(int slot) {
        if (!isSlot(slot)) {
            return INVALID_ARGUMENT;
        }
        history.record(state);
        state.keep(slot);
        findPrinted(state.menu);
        return printing.number;
    }

    /** Promise 10. */
    public int restore(int slot) {
        if (!isSlot(slot)) {
            return INVALID_ARGUMENT;
        }
        if (!state.isKept(slot)) {
            return ILLEGAL_STATE;
        }
        history.record(state);
        state.bringBack(slot);
        findPrinted(state.menu);
        return printing.number;
    }

    /** Promise 11. */
    public int undo() {
        if (history.size == 0) {
            return ILLEGAL_STATE;
        }
        history.giveBack(state);
        return history.size;
    }

    // ---- text

    /** Promise 12. */
    public int append(int character) {
        if (!inRange(character, 1, 255)) {
            return INVALID_ARGUMENT;
        }
        if (reader.length >= TEXT_ROOM) {
            return CAPACITY_EXCEEDED;
        }
        reader.write(character);
        return reader.length;
    }

    /** Promise 13. */
    public int clearText() {
        int previous = reader.length;
        reader.length = 0;
        return previous;
    }

    /** Promise 14. */
    public int load() {
        // Items are read into a draft, so that an error in a later one leaves the menu as it was.
        draft.copyFrom(state.menu);
        int items = reader.readInto(draft);
        if (items < 0) {
            return items;
        }
        history.record(state);
        state.menu.copyFrom(draft);
        reader.length = 0;
        return items;
    }

    // ---- looking

    /** Promise 15. */
    public int count(int what) {
        layCard();
        switch (what) {
            case 0: return state.menu.size();
            case 1: return printing.number;
            case 2: return fold.linesOf(0);
            case 3: return fold.linesOf(1);
            case 4: return fold.weightOf(0);
            case 5: return fold.weightOf(1);
            case 6: return printing.column;
            case 7: return Integer.bitCount(printing.allergens);
            case 8: return fold.keySide;
            case 9: return fold.gap;
            case 10: return fold.fill();
            case 11: return fold.isEven() ? 1 : 0;
            case 12: return printing.prices;
            case 13: return Integer.bitCount(state.kept);
            case 14: return history.size;
            case 15: return reader.length;
            default: return INVALID_ARGUMENT;
        }
    }

    /** Promise 16. */
    public int card(int what) {
        if (inRange(what, 0, CARD_VALUES - 1)) {
            return state.menu.setting(what);
        }
        if (inRange(what, CARD_VALUES, CARD_VALUES + COURSES - 1)) {
            return sideIn(state.menu.way, what - CARD_VALUES);
        }
        return INVALID_ARGUMENT;
    }

    /** Promise 17. */
    public int dish(int dish, int what) {
        if (!state.menu.hasDish(dish) || !inRange(what, 0, DISH_VALUES + 1)) {
            return INVALID_ARGUMENT;
        }
        if (what < DISH_VALUES) {
            return state.menu.valueOf(dish, what);
        }
        layCard();
        boolean printed = has(printing.set, dish);
        if (what == DISH_VALUES) {
            return printed ? state.menu.linesOf(dish, printing.column) : 0;
        }
        return printed ? firstLineOf(dish) : NONE;
    }

    /** Promise 18. */
    public int line(int side, int index, int what) {
        if (!isSide(side) || index < 0 || !inRange(what, 0, 5)) {
            return INVALID_ARGUMENT;
        }
        layCard();
        if (index >= fold.linesOf(side)) {
            return NONE;
        }
        blocks.lay(state.menu, printing, fold, side);
        int block = blocks.blockAt(index);
        int kind = blocks.kindOf(block);
        int number = blocks.numberOf(block);
        int within = index - blocks.startOf(block);
        if (what == 0) {
            return kind;
        }
        switch (kind) {
            case HEADING_LINE: return headingLine(number, within, what);
            case DISH_LINE: return dishLine(number, within, what);
            case KEY_LINE: return keyLine(within, what);
            default: return what == 1 ? NONE : 0;
        }
    }

    /** Promise 19. */
    public int account(int side, int what) {
        if (!isSide(side) || !inRange(what, 0, PARTS - 1)) {
            return INVALID_ARGUMENT;
        }
        layCard();
        return fold.partOf(side, what);
    }

    // ---- reasons, and what would be, which changes nothing

    /** Promise 20. */
    public int why(int dish) {
        if (!state.menu.hasDish(dish)) {
            return INVALID_ARGUMENT;
        }
        if (!state.menu.isOffered(dish)) {
            return 1;
        }
        if (!state.menu.isInSeason(dish, state.menu.setting(SEASON))) {
            return 2;
        }
        if (!state.menu.suits(dish, state.menu.setting(GUEST))) {
            return 3;
        }
        findPrinted(state.menu);
        return has(printing.set, dish) ? 0 : 4;
    }

    /** Promise 21. */
    public int replacement(int dish) {
        if (!state.menu.hasDish(dish)) {
            return INVALID_ARGUMENT;
        }
        findPrinted(state.menu);
        if (!has(printing.set, dish)) {
            return ILLEGAL_STATE;
        }
        int before = printing.set;
        draft.copyFrom(state.menu);
        draft.change(dish, OFFER, 0);
        findPrinted(draft);
        return smallestIn(printing.set & ~before);
    }

    /** Promise 22. */
    public int evenSeasons() {
        int seasons = 0;
        for (int season = 0; season < SEASON_COUNT; season++) {
            printing.find(state.menu, season, state.menu.setting(GUEST));
            fold.lay(printing, state.menu, state.menu.way);
            if (fold.isEven()) {
                seasons |= 1 << season;
            }
        }
        return seasons;
    }

    /** Promise 23. */
    public int printedFor(int guest) {
        if (!isCardValue(GUEST, guest)) {
            return INVALID_ARGUMENT;
        }
        printing.find(state.menu, state.menu.setting(SEASON), guest);
        return printing.number;
    }

    /** Promise 24. */
    public int bestSides(int what) {
        if (!inRange(what, 0, 3)) {
            return INVALID_ARGUMENT;
        }
        findPrinted(state.menu);
        int way = foldBestWay();
        switch (what) {
            case 0: return way;
            case 1: return fold.difference();
            case 2: return fold.longest();
            default: return fold.isEven() ? 1 : 0;
        }
    }

    /** Promise 25. */
    public int bestSet(int side, int lines, int column, int what) {
        if (!areSetArguments(side, lines, column) || !inRange(what, 0, 2)) {
            return INVALID_ARGUMENT;
        }
        finder.find(state.menu, side, lines, column);
        if (!finder.hasFound()) {
            return NONE;
        }
        return what == 2 ? finder.foundSet() : finder.prices();
    }

    // ---- helpers of the calls

    private void findPrinted(Menu menu) {
        printing.find(menu, menu.setting(SEASON), menu.setting(GUEST));
    }

    private void layCard() {
        printing.find(state.menu, state.menu.setting(SEASON), state.menu.setting(GUEST));
        fold.lay(printing, state.menu, state.menu.way);
    }

    /** Finds the best way for what printing has found last; fold is laid with it then. */
    private int foldBestWay() {
        int best = 0;
        fold.lay(printing, state.menu, best);
        for (int way = 1; way < WAYS; way++) {
            otherFold.lay(printing, state.menu, way);
            if (otherFold.isBetterThan(fold)) {
                best = way;
                fold.lay(printing, state.menu, best);
            }
        }
        return best;
    }

    private int firstLineOf(int dish) {
        int side = sideIn(state.menu.way, state.menu.valueOf(dish, COURSE));
        blocks.lay(state.menu, printing, fold, side);
        return blocks.startOf(blocks.blockOfDish(dish));
    }

    private int headingLine(int course, int within, int what) {
        switch (what) {
            case 1: return course;
            case 2: return within;
            case 3: return within == 0 ? HEADING_WEIGHT : 0;
            default: return 0;
        }
    }

    private int dishLine(int dish, int within, int what) {
        int width = state.menu.setting(WIDTH);
        int text = Math.max(0, Math.min(width, state.menu.textOf(dish) - within * width));
        boolean isLast = within == state.menu.linesOf(dish, printing.column) - 1;
        switch (what) {
            case 1: return dish;
            case 2: return within;
            case 3: return state.menu.valueOf(dish, WEIGHT) + (within == 0 ? FIRST_LINE_EXTRA : 0);
            case 4: return text;
            default: return isLast ? width - text - printing.column : 0;
        }
    }

    private int keyLine(int within, int what) {
        int told = within * KEY_LINE_ROOM;
        switch (what) {
            case 1: return memberOf(printing.allergens, told);
            case 2: return within;
            case 3: return Math.min(KEY_LINE_ROOM, Integer.bitCount(printing.allergens) - told);
            default: return 0;
        }
    }

    private static boolean areSetArguments(int side, int lines, int column) {
        return isSide(side) && inRange(lines, 0, MOST_LINES) && inRange(column, 1, 4);
    }

    private static boolean isSide(int side) {
        return inRange(side, 0, 1);
    }

    private static boolean isSlot(int slot) {
        return inRange(slot, 0, SLOTS - 1);
    }

    private static boolean isDishValue(int what, int value) {
        return inRange(what, 0, DISH_VALUES - 1) && inRange(value, DISH_LOW[what], DISH_HIGH[what]);
    }

    private static boolean isCardValue(int what, int value) {
        return inRange(what, 0, CARD_VALUES - 1) && inRange(value, CARD_LOW[what], CARD_HIGH[what]);
    }

    private static boolean inRange(int value, int low, int high) {
        return low <= value && value <= high;
    }

    private static boolean has(int set, int number) {
        return (set >> number & 1) == 1;
    }

    private static int sideIn(int way, int course) {
        return way >> course & 1;
    }

    private static int smallestIn(int set) {
        return memberOf(set, 0);
    }

    /** The number in the set ahead of which so many smaller ones are in it, or NONE. */
    private static int memberOf(int set, int ahead) {
        int seen = 0;
        for (int number = 0; number < DISHES; number++) {
            if (has(set, number)) {
                if (seen == ahead) {
                    return number;
                }
                seen++;
            }
        }
        return NONE;
    }

    /** How many parts of the size hold the whole; 0 without a size. */
    private static int partsOfSize(int whole, int size) {
        return size < 1 ? 0 : (whole + size - 1) / size;
    }

    private static int digitsOf(int price) {
        if (price > 999) {
            return 4;
        }
        if (price > 99) {
            return 3;
        }
        if (price > 9) {
            return 2;
        }
        return price > 0 ? 1 : 0;
    }

    /** The dishes and the card with the sides of the courses: what a snapshot keeps. */
    private static final class Menu {
        private final int[] values = new int[DISHES * DISH_VALUES];
        private final int[] settings = {0, 40, 5, 1, 2, 0};
        private int dishes = 0;
        private int way = 12;

        void copyFrom(Menu other) {
            System.arraycopy(other.values, 0, values, 0, values.length);
            System.arraycopy(other.settings, 0, settings, 0, settings.length);
            dishes = other.dishes;
            way = other.way;
        }

        int size() {
            return dishes;
        }

        boolean isFull() {
            return dishes >= DISHES;
        }

        boolean hasDish(int dish) {
            return inRange(dish, 0, dishes - 1);
        }

        int valueOf(int dish, int what) {
            int index = dish * DISH_VALUES + what;
            return 0 <= index && index < values.length ? values[index] : 0;
        }

        void change(int dish, int what, int value) {
            if (hasDish(dish) && isDishValue(what, value)) {
                values[dish * DISH_VALUES + what] = value;
            }
        }

        /** Makes room for a dish behind the others; its other values are the caller's to set. */
        int addOffered() {
            if (isFull()) {
                return NONE;
            }
            values[dishes * DISH_VALUES + OFFER] = 1;
            dishes++;
            return dishes - 1;
        }

        void drop(int dish) {
            if (!hasDish(dish)) {
                return;
            }
            int behind = (dish + 1) * DISH_VALUES;
            System.arraycopy(values, behind, values, dish * DISH_VALUES, dishes * DISH_VALUES - behind);
            dishes--;
        }

        int setting(int what) {
            return 0 <= what && what < CARD_VALUES ? settings[what] : 0;
        }

        void changeSetting(int what, int value) {
            if (isCardValue(what, value)) {
                settings[what] = value;
            }
        }

        void putCourse(int course, int side) {
            way = side == 1 ? way | 1 << course : way & ~(1 << course);
        }

        boolean isOffered(int dish) {
            return valueOf(dish, OFFER) == 1;
        }

        boolean isInSeason(int dish, int season) {
            return has(valueOf(dish, SEASONS), season);
        }

        boolean suits(int dish, int guest) {
            return (valueOf(dish, ALLERGENS) & guest) == 0;
        }

        boolean mayBePrinted(int dish, int season, int guest) {
            return isInSeason(dish, season) && suits(dish, guest);
        }

        int textOf(int dish) {
            int allergens = valueOf(dish, ALLERGENS);
            return valueOf(dish, LETTERS) + (allergens == 0 ? 0 : 1 + Integer.bitCount(allergens));
        }

        int linesOf(int dish, int column) {
            return partsOfSize(textOf(dish) + LEAST_LEADER + column, setting(WIDTH));
        }
    }

    /** All that undo() brings back: the menu and both snapshots. */
    private static final class State {
        private final Menu menu = new Menu();
        private final Menu[] snapshots = {new Menu(), new Menu()};
        private int kept = 0;

        void copyFrom(State other) {
            menu.copyFrom(other.menu);
            for (int slot = 0; slot < SLOTS; slot++) {
                snapshots[slot].copyFrom(other.snapshots[slot]);
            }
            kept = other.kept;
        }

        boolean isKept(int slot) {
            return has(kept, slot);
        }

        void keep(int slot) {
            if (isSlot(slot)) {
                snapshots[slot].copyFrom(menu);
                kept |= 1 << slot;
            }
        }

        void bringBack(int slot) {
            if (isSlot(slot) && isKept(slot)) {
                menu.copyFrom(snapshots[slot]);
            }
        }
    }

    /** The latest states, the oldest one first. */
    private static final class History {
        private final State[] states = {new State(), new State(), new State(), new State(), new State()};
        private int size = 0;

        void record(State state) {
            if (size == STATES) {
                dropOldest();
            }
            states[size].copyFrom(state);
            size++;
        }

        void giveBack(State state) {
            if (size > 0) {
                size--;
                state.copyFrom(states[size]);
            }
        }

        /** Moves the oldest state's object behind the others, to be used for the next one. */
        private void dropOldest() {
            State oldest = states[0];
            for (int i = 1; i < STATES; i++) {
                states[i - 1] = states[i];
            }
            states[STATES - 1] = oldest;
            size--;
        }
    }

    /** Which dishes are printed for a season and a guest, and what those of each course come to. */
    private static final class Printing {
        private final int[] dishes = new int[COURSES];
        private final int[] lines = new int[COURSES];
        private final int[] weights = new int[COURSES];
        private int set;
        private int number;
        private int prices;
        private int allergens;
        private int column;

        void find(Menu menu, int season, int guest) {
            clear();
            int highest = 0;
            for (int dish = 0; dish < menu.size(); dish++) {
                int course = menu.valueOf(dish, COURSE);
                if (menu.isOffered(dish) && menu.mayBePrinted(dish, season, guest)
                        && dishes[course] < menu.setting(LIMIT)) {
                    int price = menu.valueOf(dish, PRICE);
                    dishes[course]++;
                    set |= 1 << dish;
                    number++;
                    prices += price;
                    allergens |= menu.valueOf(dish, ALLERGENS);
                    highest = Math.max(highest, price);
                }
            }
            column = digitsOf(highest);
            measure(menu);
        }

        private void clear() {
            for (int course = 0; course < COURSES; course++) {
                dishes[course] = 0;
                lines[course] = 0;
                weights[course] = 0;
            }
            set = 0;
            number = 0;
            prices = 0;
            allergens = 0;
        }

        /** Apart from finding them, since lines need the width of the price column. */
        private void measure(Menu menu) {
            for (int dish = 0; dish < menu.size(); dish++) {
                if (has(set, dish)) {
                    int course = menu.valueOf(dish, COURSE);
                    int lineCount = menu.linesOf(dish, column);
                    lines[course] += lineCount;
                    weights[course] += menu.valueOf(dish, WEIGHT) * lineCount + FIRST_LINE_EXTRA;
                }
            }
        }
    }

    /** How the two sides add up when the courses are put on them in some way. */
    private static final class Fold {
        private final int[][] parts = new int[2][PARTS];
        private final int[] weights = new int[2];
        private final int[] places = new int[2];
        private int keySide;
        private int gap;

        void lay(Printing printing, Menu menu, int way) {
            clear();
            for (int course = 0; course < COURSES; course++) {
                if (printing.dishes[course] > 0) {
                    putCourse(printing, course, sideIn(way, course), menu.setting(SPACING));
                }
            }
            putKey(Integer.bitCount(printing.allergens));
            gap = Math.abs(linesOf(0) - linesOf(1));
            putFill(menu.setting(SLACK));
        }

        int partOf(int side, int part) {
            return (side == 0 || side == 1) && 0 <= part && part < PARTS ? parts[side][part] : 0;
        }

        int linesOf(int side) {
            int lines = 0;
            for (int part = 0; part < PARTS; part++) {
                lines += partOf(side, part);
            }
            return lines;
        }

        int weightOf(int side) {
            return isSide(side) ? weights[side] : 0;
        }

        int fill() {
            return partOf(0, FILL_PART) + partOf(1, FILL_PART);
        }

        /** The blank lines of the fill at a place of a side, counted from 0. */
        int fillAt(int side, int place) {
            int shares = side == 0 || side == 1 ? places[side] : 0;
            if (place < 0 || place >= shares) {
                return 0;
            }
            int blanks = partOf(side, FILL_PART);
            return blanks / shares + (place < blanks % shares ? 1 : 0);
        }

        boolean isEven() {
            return linesOf(0) == linesOf(1);
        }

        int difference() {
            return Math.abs(weights[0] - weights[1]);
        }

        int longest() {
            return Math.max(linesOf(0), linesOf(1));
        }

        boolean isBetterThan(Fold other) {
            if (isEven() != other.isEven()) {
                return isEven();
            }
            if (difference() != other.difference()) {
                return difference() < other.difference();
            }
            return longest() < other.longest();
        }

        private void clear() {
            for (int side = 0; side < 2; side++) {
                for (int part = 0; part < PARTS; part++) {
                    parts[side][part] = 0;
                }
                weights[side] = 0;
                // What a side begins with is no place, so the first one that is put doesn't count.
                places[side] = -1;
            }
            keySide = NONE;
        }

        private void putCourse(Printing printing, int course, int side, int spacing) {
            int dishes = printing.dishes[course];
            parts[side][HEADING_PART] += HEADING_LINES;
            parts[side][DISH_PART] += printing.lines[course];
            parts[side][SPACING_PART] += (dishes - 1) * spacing;
            weights[side] += HEADING_WEIGHT + printing.weights[course];
            // The heading, and all dishes but the one directly behind it.
            places[side] += dishes;
        }

        private void putKey(int allergens) {
            if (allergens == 0) {
                return;
            }
            int more = linesOf(0) != linesOf(1) ? linesOf(0) - linesOf(1) : weights[0] - weights[1];
            keySide = more > 0 ? 1 : 0;
            parts[keySide][KEY_PART] = partsOfSize(allergens, KEY_LINE_ROOM);
            weights[keySide] += allergens;
            places[keySide]++;
        }

        private void putFill(int slack) {
            int side = linesOf(0) < linesOf(1) ? 0 : 1;
            if (places[side] > 0 && partsOfSize(gap, places[side]) <= slack) {
                parts[side][FILL_PART] = gap;
            }
        }
    }

    /** Where the headings, dishes and the key of one side are; all lines between them are blank. */
    private static final class Blocks {
        private static final int ROOM = COURSES + DISHES + 1;

        private final int[] kinds = new int[ROOM];
        private final int[] numbers = new int[ROOM];
        private final int[] starts = new int[ROOM];
        private final int[] sizes = new int[ROOM];
        private int blockCount;
        private int end;
        private int place;

        void lay(Menu menu, Printing printing, Fold fold, int side) {
            blockCount = 0;
            end = 0;
            place = 0;
            for (int course = 0; course < COURSES; course++) {
                if (sideIn(menu.way, course) == side && printing.dishes[course] > 0) {
                    leaveFill(fold, side);
                    put(HEADING_LINE, course, HEADING_LINES);
                    layDishes(menu, printing, fold, course);
                }
            }
            if (fold.keySide == side) {
                leaveFill(fold, side);
                put(KEY_LINE, 0, fold.partOf(side, KEY_PART));
            }
        }

        /** The block that has the line, or -1. */
        int blockAt(int index) {
            for (int block = 0; block < blockCount; block++) {
                if (inRange(index, starts[block], starts[block] + sizes[block] - 1)) {
                    return block;
                }
            }
            return -1;
        }

        /** The block of the dish, or -1. */
        int blockOfDish(int dish) {
            for (int block = 0; block < blockCount; block++) {
                if (kinds[block] == DISH_LINE && numbers[block] == dish) {
                    return block;
                }
            }
            return -1;
        }

        int kindOf(int block) {
            return isBlock(block) ? kinds[block] : BLANK;
        }

        int numberOf(int block) {
            return isBlock(block) ? numbers[block] : NONE;
        }

        int startOf(int block) {
            return isBlock(block) ? starts[block] : NONE;
        }

        private boolean isBlock(int block) {
            return inRange(block, 0, blockCount - 1);
        }

        private void layDishes(Menu menu, Printing printing, Fold fold, int course) {
            boolean isFirst = true;
            for (int dish = 0; dish < menu.size(); dish++) {
                if (has(printing.set, dish) && menu.valueOf(dish, COURSE) == course) {
                    if (!isFirst) {
                        leaveFill(fold, sideIn(menu.way, course));
                        end += menu.setting(SPACING);
                    }
                    put(DISH_LINE, dish, menu.linesOf(dish, printing.column));
                    isFirst = false;
                }
            }
        }

        private void leaveFill(Fold fold, int side) {
            if (blockCount > 0) {
                end += fold.fillAt(side, place);
                place++;
            }
        }

        private void put(int kind, int number, int size) {
            if (blockCount < ROOM) {
                kinds[blockCount] = kind;
                numbers[blockCount] = number;
                starts[blockCount] = end;
                sizes[blockCount] = size;
                blockCount++;
                end += size;
            }
        }
    }

    /**
     * Finds best sets. Candidates are gone through in the order of the side; for each number of
     * dishes of the present course and each number of lines the best set so far is held as one
     * number: the sum of its prices ahead of the candidates that it does not have, later ones ahead
     * of earlier ones. So the greater number is the better set, by the document's order.
     */
    private static final class SetFinder {
        private static final long ALL_LEFT_OUT = (1L << DISHES) - 1;
        private static final int MOST_DISHES = 9;

        private final long[][] best = new long[MOST_DISHES + 1][MOST_LINES + 1];
        private final int[] candidates = new int[DISHES];
        private int candidateCount;
        private int lineBound;
        private long found;

        void find(Menu menu, int side, int lines, int column) {
            candidateCount = 0;
            lineBound = Math.min(lines, MOST_LINES);
            forgetSets();
            best[0][0] = ALL_LEFT_OUT;
            for (int course = 0; course < COURSES; course++) {
                if (sideIn(menu.way, course) == side) {
                    tryCourse(menu, course, column);
                }
            }
            found = lineBound == lines && lines >= 0 ? best[0][lines] : -1;
        }

        boolean hasFound() {
            return found >= 0;
        }

        int prices() {
            return (int) (found >> DISHES);
        }

        int foundSet() {
            int set = 0;
            for (int i = 0; i < candidateCount; i++) {
                if (isChosen(i)) {
                    set |= 1 << candidates[i];
                }
            }
            return set;
        }

        void offerFound(Menu menu) {
            for (int i = 0; i < candidateCount; i++) {
                menu.change(candidates[i], OFFER, isChosen(i) ? 1 : 0);
            }
        }

        private boolean isChosen(int candidate) {
            return (found >> candidate & 1) == 0;
        }

        private void tryCourse(Menu menu, int course, int column) {
            int limit = Math.min(menu.setting(LIMIT), MOST_DISHES);
            int tried = 0;
            for (int dish = 0; dish < menu.size(); dish++) {
                if (menu.valueOf(dish, COURSE) == course && isCandidate(menu, dish, column)) {
                    tried++;
                    // Down from the most dishes, so that no set gets the candidate twice.
                    for (int had = Math.min(limit, tried) - 1; had >= 0; had--) {
                        int ahead = had == 0 ? HEADING_LINES : menu.setting(SPACING);
                        tryCandidate(had, ahead + menu.linesOf(dish, column), menu.valueOf(dish, PRICE));
                    }
                    addCandidate(dish);
                }
            }
            endCourse(Math.min(limit, tried));
        }

        private static boolean isCandidate(Menu menu, int dish, int column) {
            return menu.mayBePrinted(dish, menu.setting(SEASON), menu.setting(GUEST))
                    && digitsOf(menu.valueOf(dish, PRICE)) <= column;
        }

        /** Adds the next candidate to all sets that have so many dishes of its course. */
        private void tryCandidate(int had, int lines, int price) {
            long more = ((long) price << DISHES) - (1L << candidateCount);
            for (int to = lines; to <= lineBound; to++) {
                long set = best[had][to - lines];
                if (set >= 0) {
                    best[had + 1][to] = Math.max(best[had + 1][to], set + more);
                }
            }
        }

        private void addCandidate(int dish) {
            if (candidateCount < DISHES) {
                candidates[candidateCount] = dish;
                candidateCount++;
            }
        }

        /** What the course has led to is where the next one begins, again with no dish of it. */
        private void endCourse(int most) {
            for (int had = 1; had <= most; had++) {
                for (int lines = 0; lines <= lineBound; lines++) {
                    best[0][lines] = Math.max(best[0][lines], best[had][lines]);
                    best[had][lines] = -1;
                }
            }
        }

        private void forgetSets() {
            for (int had = 0; had <= MOST_DISHES; had++) {
                for (int lines = 0; lines <= lineBound; lines++) {
                    best[had][lines] = -1;
                }
            }
        }
    }

    /** Holds the text and reads dishes from it, left to right. */
    private static final class Reader {
        private static final int ERROR = -1000;
        private static final int ALL_SEASONS = 15;
        private static final int USUAL_WEIGHT = 2;
        private static final String SEASON_SIGNS = "psaw";
        private static final String ALLERGEN_SIGNS = "abcdefgh";
        // Above all ranges; longer numbers stay here, so that no number of digits wraps around.
        private static final int TOO_GREAT = 100000;

        private final int[] text = new int[TEXT_ROOM];
        private final int[] item = new int[DISH_VALUES];
        private int length = 0;
        private int at;
        private int errorAt;

        void write(int character) {
            if (length < TEXT_ROOM) {
                text[length] = character;
                length++;
            }
        }

        /** Adds the dishes to the menu: how many, or -1000 minus the error position. */
        int readInto(Menu menu) {
            at = 0;
            // One item more than there can be dishes, for the one that finds no room.
            for (int items = 0; items <= DISHES; items++) {
                if (nextSign() == 0) {
                    return items;
                }
                if (!readItem(menu)) {
                    return ERROR - errorAt;
                }
            }
            return ERROR - errorAt;
        }

        private boolean readItem(Menu menu) {
            if (menu.isFull()) {
                return failAt(at);
            }
            boolean isRead = readNumber(COURSE) && readSign(':') && readNumber(LETTERS) && readSign('$')
                    && readNumber(PRICE) && readSeasons() && readAllergens() && readWeight() && readSign(';');
            if (isRead) {
                addItem(menu);
            }
            return isRead;
        }

        private void addItem(Menu menu) {
            int dish = menu.addOffered();
            for (int what = COURSE; what <= WEIGHT; what++) {
                menu.change(dish, what, item[what]);
            }
        }

        private boolean readSeasons() {
            int seasons = readSet(SEASON_SIGNS);
            item[SEASONS] = seasons == 0 ? ALL_SEASONS : seasons;
            return seasons >= 0;
        }

        private boolean readAllergens() {
            item[ALLERGENS] = 0;
            if (nextSign() != '+') {
                return true;
            }
            at++;
            int allergens = readSet(ALLERGEN_SIGNS);
            item[ALLERGENS] = allergens;
            return allergens == 0 ? failAt(at) : allergens > 0;
        }

        private boolean readWeight() {
            item[WEIGHT] = USUAL_WEIGHT;
            if (nextSign() != '*') {
                return true;
            }
            at++;
            return readNumber(WEIGHT);
        }

        /** Reads letters, if there are some: the set of them, or -1 if one is there twice. */
        private int readSet(String signs) {
            int set = 0;
            for (; at < length; at++) {
                int number = signs.indexOf((char) text[at]);
                if (number < 0 && text[at] != ' ') {
                    return set;
                }
                if (number >= 0 && has(set, number)) {
                    failAt(at);
                    return -1;
                }
                if (number >= 0) {
                    set |= 1 << number;
                }
            }
            return set;
        }

        private boolean readNumber(int what) {
            nextSign();
            int first = at;
            int number = 0;
            for (; at < length && inRange(text[at], '0', '9'); at++) {
                number = Math.min(TOO_GREAT, number * 10 + text[at] - '0');
            }
            boolean hasZeroAhead = at - first > 1 && text[first] == '0';
            if (at == first || hasZeroAhead || !isDishValue(what, number)) {
                return failAt(first);
            }
            item[what] = number;
            return true;
        }

        private boolean readSign(char sign) {
            if (nextSign() != sign) {
                return failAt(at);
            }
            at++;
            return true;
        }

        /** Goes on to the next character that is no space, and tells it, or 0 at the end. */
        private int nextSign() {
            for (; at < length; at++) {
                if (text[at] != ' ') {
                    return text[at];
                }
            }
            return 0;
        }

        private boolean failAt(int position) {
            errorAt = position;
            return false;
        }
    }
}
