/** The edges of the promises 1 to 12: guests, coats, masks, debts, gates, nights, settings. */
final class ChangeEdges extends Runs {
    private static final String NO_GUEST = "Throws `IndexOutOfBoundsException` if there is no such guest";

    private final Edges e;

    private ChangeEdges(Edges e) {
        this.e = e;
    }

    static void run(Edges e) {
        ChangeEdges all = new ChangeEdges(e);
        all.newObject();
        all.come();
        all.comeRefused();
        all.leave();
        all.numbersBehindOneWhoLeft();
        all.linesBehindOneWhoLeft();
        all.leaveRefused();
        all.earn();
        all.lend();
        all.lendRefused();
        all.giveBack();
        all.mask();
        all.pay();
        all.queue();
        all.queueRefused();
        all.open();
        all.night();
        all.set();
    }

    private void newObject() {
        String creates = "Creates an empty carnival, in the night 0, without a snapshot, with an empty buffer.";
        e.of("1", creates, x -> {
            e.row("all counts", counts(x, 0, 21), 0, 0, 0, 0, 0, 0, 0, 0, 0, 0, 0, 0, 0, 0, 0, 2, 4, 3, 2, 2, 10, 0);
            e.row("lines", new int[] {x.line(0), x.line(1), x.line(2)}, 0, 0, 0);
            e.row("no stop", new int[] {x.stopped(0), x.stopped(1)}, NONE, NONE);
            e.due("share", x.decentShare(), 1.0);
        });
        e.of("1", "in the night 0", x -> e.due("the night", x.keep(), 0));
        e.of("1", "without a snapshot", x -> e.told("restore", x::restore, Edges.STATE));
        e.of("1", "with an empty buffer", x -> {
            e.due("no error", x.firstError(), 0);
            e.told("no carnival", x::revel, Edges.ARGUMENT);
            e.due("its length", x.clearBuffer(), 0);
            e.told("no saved state", x::undo, Edges.STATE);
        });
        e.of("1", creates, x -> {
            come(x, 3);
            x.set(0, 9);
            x.keep();
            type(x, "q0");
            LaceRanks other = new LaceRanks();
            e.due("another object is empty", other.count(1), 0);
            e.due("another object has the first settings", other.count(15), 2);
            e.due("another object has an empty buffer", other.clearBuffer(), 0);
            e.told("another object has no snapshot", other::restore, Edges.STATE);
        });
    }

    private void come() {
        e.of("2", "Lets a guest come, who wears the own coat.", x -> {
            come(x, 10);
            for (int i = 0; i < 10; i++) {
                e.row("what it wears", new int[] {x.guest(i, 4), x.guest(i, 10)}, i, NONE);
            }
        });
        e.of("2", "`rank`: 0 to 4", x -> {
            x.come(0, 1, 1);
            x.come(4, 1, 1);
            e.row("ranks", new int[] {x.guest(0, 0), x.guest(1, 0)}, 0, 4);
        });
        e.of("2", "`lace`: 0 to 40", x -> {
            x.come(1, 0, 1);
            x.come(1, 40, 1);
            e.row("lace", new int[] {x.guest(0, 3), x.guest(1, 3)}, 0, 40);
        });
        e.of("2", "`ribbons`: 0 to 99", x -> {
            x.come(1, 1, 0);
            x.come(1, 1, 99);
            e.row("purses", new int[] {x.guest(0, 1), x.guest(1, 1)}, 0, 99);
        });
        e.of("2", "Returns its number.", x -> {
            for (int i = 0; i < 10; i++) {
                e.due("behind " + i + " guests", x.come(2, 3, 4), i);
            }
        });
        e.of("2", "Undoable.", x -> {
            come(x, 9);
            x.come(0, 0, 0);
            x.undo();
            e.due("nine again", x.count(1), 9);
        });
    }

    private void comeRefused() {
        String range = "Throws `IllegalArgumentException` if rank, lace or ribbons is out of range";
        e.of("2", range, x -> {
            for (int wrong : new int[] {-1, 5, LEAST, MOST}) {
                e.refused("rank " + wrong, y -> come(y, 3), y -> y.come(wrong, 0, 0), Edges.ARGUMENT);
            }
        });
        e.of("2", range, x -> {
            for (int wrong : new int[] {-1, 41, LEAST, MOST}) {
                e.refused("lace " + wrong, y -> come(y, 3), y -> y.come(0, wrong, 0), Edges.ARGUMENT);
            }
        });
        e.of("2", range, x -> {
            for (int wrong : new int[] {-1, 100, LEAST, MOST}) {
                e.refused("ribbons " + wrong, y -> come(y, 3), y -> y.come(0, 0, wrong), Edges.ARGUMENT);
            }
        });
        e.of("2", "Throws `IllegalStateException` if there are 10", x -> {
            e.refused("an eleventh", y -> come(y, 10), y -> y.come(0, 0, 0), Edges.STATE);
            e.refused("an eleventh", y -> come(y, 10), y -> y.come(4, 40, 99), Edges.STATE);
            e.refused("out of range too", y -> come(y, 10), y -> y.come(0, 0, -1), Edges.ARGUMENT);
            come(x, 9);
            e.due("a tenth", x.come(4, 40, 99), 9);
        });
    }

    private void leave() {
        e.of("3", "Lets a guest go for good, with the own coat and the purse; its debts are gone.", x -> {
            x.come(0, 40, 5);
            x.come(0, 30, 6);
            enter(x, 0, 0);
            x.night();
            x.earn(0, 9);
            e.row("ahead of it", counts(x, 4, 10), 15, 5, 71, 20, 32, 38, 70);
            x.leave(0);
            e.row("behind it", counts(x, 4, 10), 6, 5, 0, 11, 30, 38, 68);
        });
        e.of("3", "Returns the debts.", x -> {
            x.come(0, 3, 0);
            x.come(0, 40, 0);
            x.come(0, 0, 0);
            x.set(3, 1);
            enter(x, 0, 0);
            x.set(3, 9);
            enter(x, 1, 0);
            x.night();
            e.due("no debts", x.leave(2), 0);
            e.due("the highest debts of one night", x.leave(1), 342);
            e.due("a debt of 1", x.leave(0), 1);
            e.due("nobody is left", x.count(1), 0);
        });
        e.of("3", "Undoable.", x -> {
            come(x, 1);
            x.leave(0);
            x.undo();
            e.row("there again", numbers(x, 0), 0, 20, 0, 10, 0, 10, 0, 0, NONE, NONE, NONE);
        });
    }

    private void numbersBehindOneWhoLeft() {
        String less = "Those behind it have numbers that are less by 1.";
        for (int gone = 0; gone < 10; gone++) {
            int left = gone;
            e.of("3", less, x -> {
                for (int i = 0; i < 10; i++) {
                    x.come(i % 5, i, 10 + i);
                }
                x.leave(left);
                for (int i = 0; i < 9; i++) {
                    int was = i < left ? i : i + 1;
                    e.row("guest " + i + " behind " + left, numbers(x, i),
                        was % 5, 10 + was, 0, was, i, was, 0, 0, NONE, NONE, NONE);
                }
                e.told("no tenth", () -> x.guest(9, 0), Edges.INDEX);
            });
            e.of("3", less, x -> {
                x.set(0, 20);
                x.set(1, 0);
                come(x, 10);
                int lender = (left + 1) % 10;
                int borrower = (left + 9) % 10;
                int second = (left + 8) % 10;
                int masked = (left + 5) % 10;
                int first = (left + 2) % 10;
                int inside = (left + 3) % 10;
                x.lend(lender, borrower);
                x.lend(second, lender);
                enter(x, inside, 0);
                x.queue(second, 2);
                x.queue(first, 2);
                x.queue(lender, 1);
                x.mask(masked);
                x.leave(left);
                int[] now = new int[10];
                for (int i = 0; i < 10; i++) {
                    now[i] = i > left ? i - 1 : i;
                }
                e.row("who wears what", new int[] {x.guest(now[borrower], 4), x.guest(now[lender], 4),
                    x.guest(now[second], 4)}, now[lender], now[second], NONE);
                e.row("who has whose coat", new int[] {x.guest(now[lender], 10), x.guest(now[second], 10),
                    x.guest(now[borrower], 10)}, now[borrower], now[lender], NONE);
                e.due("who is inside", x.count(14), 1 << now[inside]);
                e.due("who is masked", x.guest(now[masked], 6), 2);
                e.row("who stands where", new int[] {x.guest(now[second], 8), x.guest(now[second], 9),
                    x.guest(now[first], 8), x.guest(now[first], 9), x.guest(now[lender], 8)}, 2, 0, 2, 1, 1);
                x.open(2);
                x.open(2);
                e.due("they come in turn", x.count(14), 1 << now[inside] | 1 << now[second] | 1 << now[first]);
            });
        }
    }

    private void linesBehindOneWhoLeft() {
        for (int gate = 0; gate < 3; gate++) {
            int its = gate;
            e.of("3", "Those behind it have numbers that are less by 1.", x -> {
                x.set(0, 20);
                come(x, 10);
                int[] line = {9, 0, 4, 1, 8, 2, 7, 6, 5};
                for (int guest : line) {
                    x.queue(guest, its);
                }
                x.leave(3);
                int inside = 0;
                for (int guest : line) {
                    int now = guest > 3 ? guest - 1 : guest;
                    e.row("the first", new int[] {x.guest(now, 8), x.guest(now, 9)}, its, 0);
                    x.open(its);
                    inside |= 1 << now;
                    e.due("inside", x.count(14), inside);
                }
            });
        }
    }

    private void leaveRefused() {
        e.noSuchGuest("3", NO_GUEST, LaceRanks::leave);
        e.everyGuest("3", "guest", LaceRanks::leave);
        String state = "Throws `IllegalStateException` if it lent its coat away, or wears one that was lent, or is "
            + "inside, or stands in a line";
        e.of("3", state, x -> {
            e.refused("it lent its coat away", y -> revelOf(y, "l0>1"), y -> y.leave(0), Edges.STATE);
            e.due("one who has its coat", left("l2>1", 0), "0");
        });
        e.of("3", state, x -> {
            e.refused("it wears one that was lent", y -> revelOf(y, "l0>1"), y -> y.leave(1), Edges.STATE);
            e.refused("it lent its coat and wears one", y -> revelOf(y, "l0>1;l2>0"), y -> y.leave(0), Edges.STATE);
            x.come(0, 0, 0);
            x.come(0, 0, 0);
            x.come(0, 0, 0);
            x.lend(0, 1);
            x.lend(2, 0);
            x.giveBack(1);
            e.told("its own is at home, but it wears one that was lent", () -> x.leave(0), Edges.STATE);
            x.giveBack(0);
            e.due("it wears its own again", x.leave(0), 0);
        });
        e.of("3", state, x -> {
            e.refused("it is inside", y -> revelOf(y, "q0>0;o0"), y -> y.leave(0), Edges.STATE);
            e.due("another one is inside", left("q1>0;o0", 0), "0");
            e.due("it was inside", left("q0>0;o0;^", 0), "16");
        });
        e.of("3", state, x -> {
            for (int gate = 0; gate < 3; gate++) {
                String text = "q0>" + gate;
                e.refused("it stands in line " + gate, y -> revelOf(y, text), y -> y.leave(0), Edges.STATE);
                e.due("it stood in line " + gate, left(text + ";^", 0), "0");
                e.due("another one stands in line " + gate, left(text, 1), "0");
            }
        });
    }

    private static void revelOf(LaceRanks x, String text) {
        for (int i = 0; i < 5; i++) {
            x.come(0, 10, 0);
        }
        revel(x, text);
    }

    private static String left(String text, int guest) {
        LaceRanks x = new LaceRanks();
        revelOf(x, text);
        return Check.told(() -> x.leave(guest));
    }

    private void earn() {
        e.of("4", "Lets a guest earn ribbons, at most to 999.", x -> {
            x.come(0, 0, 99);
            for (int i = 2; i <= 10; i++) {
                e.due("its purse", x.earn(0, 99), 99 * i);
            }
            e.due("991", x.earn(0, 1), 991);
            e.due("8 of 9 are too many by 1", x.earn(0, 9), 999);
            e.due("what was earned", x.count(7), 999);
        });
        e.of("4", "Lets a guest earn ribbons, at most to 999.", x -> {
            x.come(0, 0, 9);
            for (int i = 0; i < 10; i++) {
                x.earn(0, 99);
            }
            e.due("999, and nothing was too many", x.count(7), 999);
            e.due("all are too many", x.earn(0, 99), 999);
            e.due("nothing was earned", x.count(7), 999);
        });
        e.of("4", "`ribbons`: 1 to 99", x -> {
            x.come(0, 0, 0);
            e.due("the fewest", x.earn(0, 1), 1);
            e.due("the most", x.earn(0, 99), 100);
        });
        e.of("4", "Returns the purse then.", x -> {
            x.come(0, 0, 9);
            x.come(0, 0, 5);
            e.due("its purse", x.earn(1, 7), 12);
            e.row("the purses", new int[] {x.guest(0, 1), x.guest(1, 1)}, 9, 12);
        });
        e.of("4", "Undoable.", x -> {
            x.come(0, 0, 9);
            x.earn(0, 99);
            x.undo();
            e.row("not earned", new int[] {x.guest(0, 1), x.count(7)}, 9, 9);
        });
        e.noSuchGuest("4", NO_GUEST, (x, guest) -> x.earn(guest, 1));
        e.noSuchGuest("4", NO_GUEST, (x, guest) -> x.earn(guest, 99));
        e.everyGuest("4", "guest", (x, guest) -> x.earn(guest, 99));
        e.of("4", "Throws `IllegalArgumentException` if ribbons is out of range", x -> {
            for (int wrong : new int[] {0, -1, 100, LEAST, MOST}) {
                e.refused("ribbons " + wrong, y -> come(y, 2), y -> y.earn(1, wrong), Edges.ARGUMENT);
                e.refused("no guest, ribbons " + wrong, y -> come(y, 2), y -> y.earn(2, wrong), Edges.INDEX);
            }
        });
    }

    private void lend() {
        e.of("5", "Lends the own coat of a guest.", x -> {
            come(x, 10);
            x.lend(9, 0);
            e.row("the first and the last", new int[] {x.guest(0, 4), x.guest(9, 4), x.guest(9, 10)}, 9, NONE, 0);
        });
        e.of("5", "Returns the lace of the coat.", x -> {
            x.come(0, 0, 0);
            x.come(0, 40, 0);
            x.come(0, 7, 0);
            e.due("the least", x.lend(0, 2), 0);
            x.giveBack(2);
            e.due("the most", x.lend(1, 2), 40);
            enter(x, 2, 0);
            x.night();
            x.giveBack(2);
            e.due("what is left of it", x.lend(1, 2), 2);
        });
        e.of("5", "Undoable.", x -> {
            come(x, 2);
            x.lend(0, 1);
            x.undo();
            e.row("their own", new int[] {x.guest(0, 4), x.guest(1, 4), x.guest(0, 10)}, 0, 1, NONE);
        });
    }

    private void lendRefused() {
        e.noSuchGuest("5", NO_GUEST, (x, guest) -> x.lend(guest, 0));
        e.noSuchGuest("5", NO_GUEST, (x, guest) -> x.lend(0, guest));
        e.noSuchGuest("5", NO_GUEST, (x, guest) -> x.lend(guest, guest));
        e.everyGuest("5", "guest", (x, guest) -> x.lend(guest, (guest + 1) % 10));
        e.everyGuest("5", "other", (x, other) -> x.lend((other + 1) % 10, other));
        e.of("5", "Throws `IllegalStateException` if it cannot be lent", x -> {
            e.refused("1: to itself", y -> come(y, 1), y -> y.lend(0, 0), Edges.STATE);
            e.refused("2: it lent it away", y -> revelOf(y, "l0>1"), y -> y.lend(0, 2), Edges.STATE);
            e.refused("2: it lent it to the same", y -> revelOf(y, "l0>1"), y -> y.lend(0, 1), Edges.STATE);
            e.refused("2: it wears another one", y -> revelOf(y, "l0>1"), y -> y.lend(1, 2), Edges.STATE);
            e.refused("2: it wears that of the other one", y -> revelOf(y, "l0>1"), y -> y.lend(1, 0), Edges.STATE);
            e.refused("3: the other one has one", y -> revelOf(y, "l0>1"), y -> y.lend(2, 1), Edges.STATE);
            e.refused("3: the other one is inside", y -> revelOf(y, "q1>0;o0"), y -> y.lend(0, 1), Edges.STATE);
        });
        e.of("5", "Throws `IllegalStateException` if it cannot be lent", x -> {
            revelOf(x, "l0>1;q2>0;q3>1;o0");
            e.due("to one without a coat", x.lend(4, 0), 10);
            x.undo();
            e.due("to one in a line", x.lend(4, 3), 10);
            x.undo();
            e.due("by one in a line", x.lend(3, 4), 10);
            x.undo();
            e.due("by one who is inside", x.lend(2, 4), 2);
        });
    }

    private void giveBack() {
        e.of("6", "Gives a coat that was lent back.", x -> {
            come(x, 10);
            x.lend(9, 0);
            x.giveBack(0);
            e.row("their own", new int[] {x.guest(0, 4), x.guest(9, 4), x.guest(9, 10)}, 0, 9, NONE);
            e.told("not twice", () -> x.giveBack(0), Edges.STATE);
        });
        e.of("6", "Returns the one who lent it.", x -> {
            come(x, 10);
            x.lend(9, 0);
            e.due("the last", x.giveBack(0), 9);
            x.lend(0, 9);
            e.due("the first", x.giveBack(9), 0);
        });
        e.of("6", "Undoable.", x -> {
            come(x, 2);
            x.lend(0, 1);
            x.giveBack(1);
            x.undo();
            e.row("lent again", new int[] {x.guest(0, 4), x.guest(1, 4), x.guest(0, 10)}, NONE, 0, 1);
        });
        e.noSuchGuest("6", NO_GUEST, LaceRanks::giveBack);
        e.of("6", "`guest`: the one to whom it was lent", x -> {
            come(x, 10);
            for (int i = 0; i < 10; i++) {
                int lender = (i + 1) % 10;
                x.lend(lender, i);
                int guest = i;
                e.told("not the one who lent it", () -> x.giveBack(lender), Edges.STATE);
                e.told("the one to whom it was lent", () -> x.giveBack(guest), lender);
            }
        });
        String state = "Throws `IllegalStateException` if no coat was lent to it, or one of both is inside";
        e.of("6", state, x -> {
            e.refused("it wears its own", y -> come(y, 2), y -> y.giveBack(0), Edges.STATE);
            e.refused("it lent its own", y -> revelOf(y, "l0>1"), y -> y.giveBack(0), Edges.STATE);
            e.refused("a third one", y -> revelOf(y, "l0>1"), y -> y.giveBack(2), Edges.STATE);
        });
        e.of("6", state, x -> {
            e.refused("it is inside", y -> revelOf(y, "l0>1;q1>0;o0"), y -> y.giveBack(1), Edges.STATE);
            e.refused("the lender is inside", y -> revelOf(y, "l0>1;q0>0;o0"), y -> y.giveBack(1), Edges.STATE);
            e.refused("both are inside", y -> revelOf(y, "l0>1;q0>0;q1>0;o0*2"), y -> y.giveBack(1), Edges.STATE);
            revelOf(x, "l0>1;l2>0;q2>0;o0");
            e.due("only the lender's lender is inside", x.giveBack(1), 0);
            e.told("that one's lender is", () -> x.giveBack(0), Edges.STATE);
        });
    }

    private void mask() {
        e.of("7", "Lets a guest take a mask.", x -> {
            come(x, 10);
            for (int i = 0; i < 10; i++) {
                x.mask(i);
                e.due("masked", x.count(13), i + 1);
            }
        });
        e.of("7", "Returns its ribbons then.", x -> {
            x.come(0, 0, 3);
            x.come(0, 0, 99);
            e.due("none", x.mask(0), 0);
            e.due("3 less", x.mask(1), 96);
        });
        e.of("7", "Undoable.", x -> {
            x.come(0, 0, 3);
            x.mask(0);
            x.undo();
            e.row("not masked", new int[] {x.guest(0, 1), x.guest(0, 6), x.count(5)}, 3, 0, 0);
        });
        e.noSuchGuest("7", NO_GUEST, LaceRanks::mask);
        e.everyGuest("7", "guest", LaceRanks::mask);
        e.of("7", "Throws `IllegalStateException` if it cannot be taken", x -> {
            e.refused("8: masked", y -> masked(y, 9, 0), y -> y.mask(0), Edges.STATE);
            e.refused("8: masked for one night", y -> masked(y, 9, 1), y -> y.mask(0), Edges.STATE);
            e.refused("8 and 9", y -> masked(y, 3, 0), y -> y.mask(0), Edges.STATE);
            for (int ribbons = 0; ribbons < 3; ribbons++) {
                int few = ribbons;
                e.refused("9: " + few, y -> y.come(0, 0, few), y -> y.mask(0), Edges.STATE);
            }
            masked(x, 6, 2);
            e.due("it is off", x.mask(0), 0);
        });
    }

    private static void masked(LaceRanks x, int ribbons, int nights) {
        x.come(0, 0, ribbons);
        x.mask(0);
        for (int i = 0; i < nights; i++) {
            x.night();
        }
    }

    private void pay() {
        e.of("8", "Lets a guest pay its debt to the chest, as far as the purse goes.", x -> {
            x.come(0, 5, 0);
            enter(x, 0, 0);
            x.earn(0, 5);
            x.pay(0);
            e.row("one less than the debt", counts(x, 4, 6), 0, 5, 1);
            x.earn(0, 2);
            x.pay(0);
            e.row("one more than the debt", counts(x, 4, 6), 1, 6, 0);
        });
        e.of("8", "Returns the debt that is left.", x -> {
            x.come(0, 40, 0);
            e.due("without debts", x.pay(0), 0);
            enter(x, 0, 0);
            e.due("with an empty purse", x.pay(0), 76);
            x.earn(0, 75);
            e.due("one is left", x.pay(0), 1);
            x.earn(0, 1);
            e.due("none is left", x.pay(0), 0);
        });
        e.of("8", "Undoable.", x -> {
            x.come(0, 5, 0);
            enter(x, 0, 0);
            x.earn(0, 5);
            x.pay(0);
            x.undo();
            e.row("not paid", counts(x, 4, 6), 5, 0, 6);
        });
        e.noSuchGuest("8", NO_GUEST, LaceRanks::pay);
        e.everyGuest("8", "guest", LaceRanks::pay);
    }

    private void queue() {
        e.of("9", "Lets a guest stand in the line of a gate, at its end.", x -> {
            come(x, 10);
            for (int i = 9; i >= 0; i--) {
                x.queue(i, 1);
                for (int j = 9; j >= i; j--) {
                    e.due("the place of " + j, x.guest(j, 9), 9 - j);
                }
            }
        });
        e.of("9", "`gate`: 0 to 2", x -> {
            come(x, 3);
            for (int gate = 0; gate < 3; gate++) {
                x.queue(gate, gate);
                e.row("its gate", new int[] {x.guest(gate, 8), x.line(gate)}, gate, 1);
            }
        });
        e.of("9", "Returns its place in the line, from 0.", x -> {
            come(x, 10);
            for (int i = 0; i < 10; i++) {
                e.due("its place", x.queue(i, 2), i);
            }
            x.night();
            e.due("an empty line", x.queue(9, 2), 0);
            e.due("another empty line", x.queue(8, 1), 0);
            x.open(2);
            e.due("empty once more", x.queue(7, 2), 0);
        });
        e.of("9", "Undoable.", x -> {
            come(x, 2);
            x.queue(0, 2);
            x.queue(1, 2);
            x.undo();
            e.row("in no line", new int[] {x.line(2), x.guest(1, 8), x.guest(0, 9)}, 1, NONE, 0);
        });
    }

    private void queueRefused() {
        String index = "Throws `IndexOutOfBoundsException` if there is no such guest or gate";
        e.noSuchGuest("9", index, (x, guest) -> x.queue(guest, 2));
        e.noSuchGuest("9", index, (x, guest) -> x.queue(guest, 0));
        e.everyGuest("9", "guest", (x, guest) -> x.queue(guest, 2));
        e.of("9", index, x -> {
            for (int wrong : new int[] {-1, 3, LEAST, MOST}) {
                e.refused("gate " + wrong, y -> come(y, 2), y -> y.queue(0, wrong), Edges.INDEX);
                e.refused("in a line, gate " + wrong, y -> revelOf(y, "q0>0"), y -> y.queue(0, wrong), Edges.INDEX);
                e.refused("no guest, gate " + wrong, y -> come(y, 2), y -> y.queue(2, wrong), Edges.INDEX);
            }
        });
        e.of("9", "Throws `IllegalStateException` if it cannot stand there", x -> {
            e.refused("5: inside", y -> revelOf(y, "q0>0;o0"), y -> y.queue(0, 0), Edges.STATE);
            e.refused("5: inside", y -> revelOf(y, "q0>0;o0"), y -> y.queue(0, 2), Edges.STATE);
            e.refused("6: in the line", y -> revelOf(y, "q0>0"), y -> y.queue(0, 0), Edges.STATE);
            e.refused("6: in another line", y -> revelOf(y, "q0>0"), y -> y.queue(0, 1), Edges.STATE);
            e.refused("7: debts of 16", y -> revelOf(y, "q0>0;o0;^"), y -> y.queue(0, 0), Edges.STATE);
        });
        e.of("9", "Throws `IllegalStateException` if it cannot stand there", x -> {
            for (int bar = 14; bar <= 18; bar++) {
                LaceRanks y = new LaceRanks();
                revelOf(y, "q0>0;o0;^");
                y.set(5, bar);
                e.told("debts of 16, setting " + bar, () -> y.queue(0, 0), bar < 16 ? Edges.STATE : 0);
            }
        });
    }

    private void open() {
        e.of("10", "Opens a gate once.", x -> {
            come(x, 10);
            for (int i = 0; i < 10; i++) {
                x.queue(i, 2);
            }
            for (int i = 1; i <= 10; i++) {
                x.open(2);
                e.row("inside, in the line", counts(x, 2, 3), i, 10 - i);
            }
        });
        e.of("10", "`gate`: 0 to 2", x -> {
            come(x, 3);
            for (int gate = 0; gate < 3; gate++) {
                x.queue(gate, gate);
            }
            for (int gate = 0; gate < 3; gate++) {
                x.open(gate);
                e.due("inside", x.count(14), (2 << gate) - 1);
            }
        });
        e.of("10", "Returns how many ells are cut.", x -> {
            x.set(0, 0);
            x.come(0, 40, 0);
            x.come(0, 1, 0);
            x.come(0, 0, 0);
            e.due("the most", enter(x, 0, 0), 40);
            e.due("one", enter(x, 1, 0), 1);
            e.due("none", enter(x, 2, 0), 0);
        });
        e.of("10", "Undoable.", x -> {
            x.come(0, 40, 9);
            x.queue(0, 0);
            x.open(0);
            x.undo();
            e.row("in the line again", numbers(x, 0), 0, 9, 0, 40, 0, 40, 0, 0, 0, 0, NONE);
            e.row("chests, fined, cut", new int[] {x.count(5), x.count(9), x.count(11), x.count(12)}, 0, 0, 0, 0);
        });
        e.of("10", "Throws `IndexOutOfBoundsException` if there is no such gate", x -> {
            for (int wrong : new int[] {-1, 3, LEAST, MOST}) {
                e.refused("gate " + wrong, y -> revelOf(y, "q0>0;q1>1;q2>2"), y -> y.open(wrong), Edges.INDEX);
                e.refused("all empty, gate " + wrong, y -> come(y, 0), y -> y.open(wrong), Edges.INDEX);
            }
        });
        e.of("10", "Throws `IllegalStateException` if its line is empty", x -> {
            for (int gate = 0; gate < 3; gate++) {
                int empty = gate;
                String others = "q0>" + (gate + 1) % 3 + ";q1>" + (gate + 2) % 3;
                e.refused("without guests " + gate, y -> come(y, 0), y -> y.open(empty), Edges.STATE);
                e.refused("others have lines " + gate, y -> revelOf(y, others), y -> y.open(empty), Edges.STATE);
                String opened = others + ";q2>" + gate + ";o" + gate;
                e.refused("all have come " + gate, y -> revelOf(y, opened), y -> y.open(empty), Edges.STATE);
                String night = "q2>" + gate + ";^";
                e.refused("the night ended " + gate, y -> revelOf(y, night), y -> y.open(empty), Edges.STATE);
            }
        });
    }

    private void night() {
        e.of("11", "Ends the night.", x -> {
            for (int i = 0; i < 5; i++) {
                e.due("the night", x.count(0), i);
                x.night();
            }
        });
        e.of("11", "Returns how many guests were inside.", x -> {
            e.due("without guests", x.night(), 0);
            come(x, 10);
            e.due("none of 10", x.night(), 0);
            x.set(5, 99);
            enter(x, 9, 0);
            e.due("one of 10", x.night(), 1);
            for (int i = 0; i < 10; i++) {
                enter(x, i, 0);
            }
            e.due("all of 10", x.night(), 10);
            x.queue(0, 0);
            e.due("one in a line is not inside", x.night(), 0);
        });
        e.of("11", "Undoable.", x -> {
            revelOf(x, "q0>0;q1>0;q2>2;o0");
            x.night();
            x.undo();
            e.row("night, guests, inside, in lines", counts(x, 0, 3), 0, 5, 1, 2);
        });
    }

    private void set() {
        int[] least = {0, 0, 0, 1, 1, 0};
        int[] most = {20, 10, 9, 9, 9, 99};
        e.of("12", "`setting`: 0 to 5", x -> {
            e.due("the first", x.set(0, 7), 2);
            e.due("the last", x.set(5, 8), 10);
            e.row("settings", counts(x, 15, 20), 7, 4, 3, 2, 2, 8);
        });
        e.of("12", "`value`: the new value", x -> {
            for (int setting = 0; setting < 6; setting++) {
                x.set(setting, most[setting]);
                e.due("the most of " + setting, x.count(15 + setting), most[setting]);
                x.set(setting, least[setting]);
                e.due("the least of " + setting, x.count(15 + setting), least[setting]);
            }
        });
        e.of("12", "Returns the previous value.", x -> {
            e.due("the first value", x.set(5, 0), 10);
            e.due("the least", x.set(5, 99), 0);
            e.due("the most", x.set(5, 99), 99);
            e.due("the same", x.set(5, 1), 99);
        });
        e.of("12", "Undoable.", x -> {
            x.set(3, 9);
            x.undo();
            e.row("settings", counts(x, 15, 20), 2, 4, 3, 2, 2, 10);
        });
        e.of("12", "Throws `IndexOutOfBoundsException` if there is no such setting", x -> {
            for (int wrong : new int[] {-1, 6, LEAST, MOST}) {
                e.refused("setting " + wrong, y -> come(y, 1), y -> y.set(wrong, 1), Edges.INDEX);
                e.refused("setting " + wrong + ", no value", y -> come(y, 1), y -> y.set(wrong, -1), Edges.INDEX);
            }
        });
        e.of("12", "Throws `IllegalArgumentException` if value is out of range", x -> {
            for (int setting = 0; setting < 6; setting++) {
                int its = setting;
                for (int wrong : new int[] {least[its] - 1, most[its] + 1, LEAST, MOST}) {
                    e.refused(its + " at " + wrong, y -> come(y, 1), y -> y.set(its, wrong), Edges.ARGUMENT);
                }
            }
        });
    }
}
