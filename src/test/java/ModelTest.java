/** Long runs of calls, each answer compared with SlowMenu's; the same runs every time. */
public final class ModelTest {
    private static final int RUNS = 1500;
    // An object is used for 512 calls; a look makes 18 of them at most.
    private static final int CALLS = 512 - 18;

    private static long seed;

    private FoldedMenu x;
    private SlowMenu y;
    private StringBuilder pending;
    private final int most;
    private final int wrongArguments;

    private ModelTest(int run) {
        seed = run * 7919L + 17;
        x = new FoldedMenu();
        y = new SlowMenu();
        pending = new StringBuilder();
        most = run % 40 == 0 ? 20 : run % 4 == 1 ? 14 : run % 4 == 2 ? 9 : 5;
        wrongArguments = run % 3 == 0 ? 6 : 60;
    }

    public static void main(String[] args) {
        for (int run = 0; run < RUNS && Due.isAllRight(); run++) {
            new ModelTest(run).go(run);
        }
        Due.end();
    }

    /** A number from 0, as many as told. */
    private static int pick(int count) {
        seed = seed * 6364136223846793005L + 1442695040888963407L;
        return (int) ((seed >>> 33) % count);
    }

    private int from(int low, int high) {
        if (pick(wrongArguments) == 0) {
            int[] wrong = {low - 1, high + 1, -1, Integer.MIN_VALUE, Integer.MAX_VALUE, high + 32, low - 32};
            return wrong[pick(wrong.length)];
        }
        int kind = pick(10);
        return kind == 0 ? low : kind == 1 ? high : low + pick(high - low + 1);
    }

    private int dish() {
        return from(0, Math.max(0, y.count(0) - 1));
    }

    private int price() {
        int[] tops = {9, 9, 30, 99, 999, 9999};
        return from(1, tops[pick(tops.length)]);
    }

    private int allergens() {
        int kind = pick(4);
        return kind < 2 ? 0 : kind == 2 ? 1 << pick(8) : from(0, 255);
    }

    private void go(int run) {
        int first = Due.looked();
        for (int call = 0; call <= CALLS && Due.isAllRight(); call = Due.looked() - first) {
            String name = "run " + run + ", call " + call + ": ";
            if (pending.length() > 0) {
                int character = pending.charAt(0);
                pending.deleteCharAt(0);
                Due.due(name + "append(" + character + ")", x.append(character), y.append(character));
            } else if (pick(3) == 0) {
                change(name);
            } else {
                look(name);
            }
        }
    }

    private void change(String name) {
        int kind = pick(16);
        if (kind < 4 && y.count(0) < most) {
            int seasons = pick(2) == 0 ? 15 : from(1, 15);
            int[] a = {from(0, 3), from(1, 99), price(), seasons, allergens(), from(1, 5)};
            Due.due(name + "addDish", x.addDish(a[0], a[1], a[2], a[3], a[4], a[5]), y.addDish(a));
        } else if (kind < 4 || kind == 4 && y.count(0) > most / 2) {
            int dish = dish();
            Due.due(name + "removeDish", x.removeDish(dish), y.removeDish(dish));
        } else if (kind < 7) {
            int what = from(0, 6);
            int[] high = {3, 99, 9999, 15, 255, 5, 1};
            int value = what < 0 || what > 6 ? 0 : what == 2 ? price() : what == 4 ? allergens() : from(0, high[what]);
            int dish = dish();
            Due.due(name + "setDish", x.setDish(dish, what, value), y.setDish(dish, what, value));
        } else if (kind < 9) {
            int what = from(0, 5);
            int[] low = {0, 20, 1, 0, 0, 0};
            int[] high = {3, 60, 9, 2, 3, 255};
            int value = what < 0 || what > 5 ? 1 : what == 5 ? allergens() : from(low[what], high[what]);
            Due.due(name + "setCard", x.setCard(what, value), y.setCard(what, value));
        } else if (kind == 9) {
            int course = from(0, 3);
            int side = from(0, 1);
            Due.due(name + "setSide", x.setSide(course, side), y.setSide(course, side));
        } else {
            changeMore(name, kind);
        }
    }

    private void changeMore(String name, int kind) {
        int slot = from(0, 1);
        switch (kind) {
            case 10:
                if (pick(3) == 0) {
                    Due.due(name + "arrange", x.arrange(), y.arrange());
                }
                break;
            case 11:
                int side = from(0, 1);
                int lines = lines();
                int column = from(1, 4);
                Due.due(name + "choose(" + side + ", " + lines + ", " + column + ")",
                    x.choose(side, lines, column), y.choose(side, lines, column));
                break;
            case 12:
                Due.due(name + "take", x.take(slot), y.take(slot));
                break;
            case 13:
                Due.due(name + "restore", x.restore(slot), y.restore(slot));
                break;
            case 14:
                Due.due(name + "undo", x.undo(), y.undo());
                break;
            default:
                text(name);
                break;
        }
    }

    private void text(String name) {
        int kind = pick(4);
        if (kind == 0) {
            Due.due(name + "clearText", x.clearText(), y.clearText());
        } else if (kind == 1) {
            int character = from(1, 255);
            Due.due(name + "append", x.append(character), y.append(character));
        } else if (kind == 2) {
            Due.due(name + "clearText", x.clearText(), y.clearText());
            for (int items = pick(3); items >= 0; items--) {
                addItem();
            }
            if (pick(2) == 0) {
                pending.setCharAt(pick(pending.length()), " 0159:$pswabh+*;x".charAt(pick(17)));
            }
        }
        Due.due(name + "load", x.load(), y.load());
    }

    private void addItem() {
        String[] parts = {"" + pick(4), ":", "" + (1 + pick(99)), "$", "" + price(), letters("psaw"),
            pick(2) == 0 ? "" : "+" + letters("abcdefgh"), pick(2) == 0 ? "" : "*" + (1 + pick(5)), ";"};
        for (String part : parts) {
            pending.append(part);
            if (pick(9) == 0) {
                pending.append(' ');
            }
        }
    }

    private static String letters(String all) {
        StringBuilder letters = new StringBuilder();
        for (int i = pick(all.length()); i > 0; i--) {
            char letter = all.charAt(pick(all.length()));
            if (letters.indexOf("" + letter) < 0 || pick(8) == 0) {
                letters.append(letter);
            }
        }
        return letters.toString();
    }

    private int lines() {
        return pick(3) == 0 ? from(0, 150) : pick(12);
    }

    private void look(String name) {
        int what = from(0, 8);
        int side = from(0, 1);
        int dish = dish();
        switch (pick(11)) {
            case 0:
                for (int i = -1; i < 17; i++) {
                    Due.due(name + "count(" + i + ")", x.count(i), y.count(i));
                }
                break;
            case 1:
                Due.due(name + "card(" + what + ")", x.card(what), y.card(what));
                break;
            case 2:
                Due.due(name + "dish(" + dish + ", " + what + ")", x.dish(dish, what), y.dish(dish, what));
                Due.due(name + "dish(" + dish + ", 8)", x.dish(dish, 8), y.dish(dish, 8));
                break;
            case 3:
                lookAtLines(name, side);
                break;
            case 4:
                Due.due(name + "account", x.account(side, what), y.account(side, what));
                break;
            case 5:
                Due.due(name + "why(" + dish + ")", x.why(dish), y.why(dish));
                break;
            case 6:
                Due.due(name + "replacement(" + dish + ")", x.replacement(dish), y.replacement(dish));
                break;
            case 7:
                Due.due(name + "evenSeasons", x.evenSeasons(), y.evenSeasons());
                break;
            case 8:
                int guest = from(0, 255);
                Due.due(name + "printedFor(" + guest + ")", x.printedFor(guest), y.printedFor(guest));
                break;
            case 9:
                if (pick(4) == 0) {
                    int ask = from(0, 3);
                    Due.due(name + "bestSides(" + ask + ")", x.bestSides(ask), y.bestSides(ask));
                }
                break;
            default:
                lookAtBestSet(name, side);
                break;
        }
    }

    private void lookAtLines(String name, int side) {
        int index = lines();
        for (int what = 0; what < 6; what++) {
            Due.due(name + "line(" + side + ", " + index + ", " + what + ")", x.line(side, index, what),
                y.line(side, index, what));
        }
    }

    private void lookAtBestSet(String name, int side) {
        int lines = lines();
        int column = from(1, 4);
        int what = from(0, 2);
        Due.due(name + "bestSet(" + side + ", " + lines + ", " + column + ", " + what + ")",
            x.bestSet(side, lines, column, what), y.bestSet(side, lines, column, what));
    }
}
