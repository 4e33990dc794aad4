/** The edges of the promises 21 to 31: looks, what would be, and the hash of all. */
final class LookEdges extends Runs {
    private static final String NO_GUEST = "Throws `IndexOutOfBoundsException` if there is no such guest";
    private static final String NO_GUEST_OR_GATE = "Throws `IndexOutOfBoundsException` if there is no such guest or "
        + "gate";
    private static final int[] NO_GATE = {-1, 3, LEAST, MOST};

    private final Edges e;

    private LookEdges(Edges e) {
        this.e = e;
    }

    static void run(Edges e) {
        LookEdges all = new LookEdges(e);
        all.guest();
        all.guestInAndOut();
        all.guestRefused();
        all.law();
        all.lawRefused();
        all.count();
        all.countOfTen();
        all.countRefused();
        all.line();
        all.noLoan();
        all.whyNot();
        all.ifOpened();
        all.ifOpenedIsWhatHappens();
        all.ifOpenedRefused();
        all.bestGate();
        all.bestGateOfTwo();
        all.freeIn();
        all.freeInAlongTheNights();
        all.decentShare();
        all.digest();
        all.looksChangeNothing();
    }

    private void guest() {
        String what = "`what`: 0: its rank; 1: its purse; 2: its debts; 3: the lace of its own coat; 4: the guest "
            + "whose coat it wears (itself for the own one), NONE without a coat; 5: the lace that it wears, 0 "
            + "without a coat; 6: nights for which its mask is good; 7: 1 if it is inside, otherwise 0; 8: the gate "
            + "in whose line it stands, NONE if in none; 9: its place in that line, from 0, NONE if in none; 10: the "
            + "guest to whom its coat is lent, NONE if it is not";
        e.of("21", what, x -> {
            x.come(0, 0, 0);
            x.come(4, 40, 99);
            e.row("the least", numbers(x, 0), 0, 0, 0, 0, 0, 0, 0, 0, NONE, NONE, NONE);
            e.row("the most", numbers(x, 1), 4, 99, 0, 40, 1, 40, 0, 0, NONE, NONE, NONE);
        });
        e.of("21", what, x -> {
            x.set(4, 9);
            x.come(3, 30, 3);
            x.come(4, 20, 4);
            x.come(2, 10, 5);
            x.mask(0);
            x.lend(0, 2);
            x.queue(2, 0);
            x.queue(0, 0);
            e.row("without a coat, masked", numbers(x, 0), 3, 0, 0, 30, NONE, 0, 9, 0, 0, 1, 2);
            e.row("in a coat that was lent", numbers(x, 2), 2, 5, 0, 10, 0, 30, 0, 0, 0, 0, NONE);
            x.lend(1, 0);
            e.row("lent away, and in another one", numbers(x, 0), 3, 0, 0, 30, 1, 20, 9, 0, 0, 1, 2);
            x.giveBack(2);
            e.row("its own at home", numbers(x, 0), 3, 0, 0, 30, 1, 20, 9, 0, 0, 1, NONE);
        });
    }

    private void guestInAndOut() {
        e.of("21", "7: 1 if it is inside, otherwise 0; 8: the gate in whose line it stands, NONE if in none;", x -> {
            come(x, 1);
            for (int gate = 0; gate < 3; gate++) {
                x.set(5, 99);
                x.queue(0, gate);
                e.row("in the line", new int[] {x.guest(0, 7), x.guest(0, 8), x.guest(0, 9)}, 0, gate, 0);
                x.open(gate);
                e.row("inside", new int[] {x.guest(0, 7), x.guest(0, 8), x.guest(0, 9)}, 1, NONE, NONE);
                x.night();
                e.row("outside", new int[] {x.guest(0, 7), x.guest(0, 8), x.guest(0, 9)}, 0, NONE, NONE);
            }
        });
        e.of("21", "9: its place in that line, from 0, NONE if in none;", x -> {
            come(x, 10);
            for (int i = 0; i < 10; i++) {
                x.queue(i, 2);
            }
            for (int i = 0; i < 10; i++) {
                e.due("its place", x.guest(i, 9), i);
            }
            x.open(2);
            e.due("none", x.guest(0, 9), NONE);
            e.due("the first then", x.guest(1, 9), 0);
            e.due("the last then", x.guest(9, 9), 8);
        });
    }

    private void guestRefused() {
        for (int what = 0; what <= 10; what++) {
            int number = what;
            e.noSuchGuest("21", NO_GUEST, (x, guest) -> x.guest(guest, number));
        }
        e.everyGuest("21", "guest", (x, guest) -> x.guest(guest, 10));
        e.of("21", "Throws `IllegalArgumentException` if what is not 0 to 10", x -> {
            for (int wrong : new int[] {-1, 11, LEAST, MOST}) {
                e.refused("what " + wrong, y -> come(y, 2), y -> y.guest(1, wrong), Edges.ARGUMENT);
                e.refused("no guest, what " + wrong, y -> come(y, 2), y -> y.guest(2, wrong), Edges.INDEX);
            }
        });
    }

    private void law() {
        e.of("22", "`gate`: 0 to 2", x -> {
            e.row("each gate", new int[] {x.law(0, 1, 2), x.law(1, 1, 2), x.law(2, 1, 2)}, 6, 4, 12);
        });
        e.of("22", "`rank`: 0 to 4", x -> {
            for (int rank = 0; rank <= 4; rank++) {
                e.due("rank " + rank, x.law(0, rank, 0), 2 + 4 * rank);
            }
        });
        e.of("22", "`night`: 0 or more", x -> {
            e.due("the first", x.law(2, 0, 0), 2);
            e.due("the last", x.law(2, 0, MOST), 5);
            e.due("the last at gate 0", x.law(0, 0, MOST), 2);
            e.due("the last at gate 1", x.law(1, 0, MOST), 0);
            x.night();
            e.due("not the night that it is", x.law(2, 0, 0), 2);
        });
        e.of("22", "Returns the ells.", x -> {
            x.set(0, 0);
            x.set(1, 0);
            e.row("the least", new int[] {x.law(0, 4, 2), x.law(1, 4, 2), x.law(2, 4, 0)}, 0, 0, 0);
            x.set(0, 20);
            x.set(1, 10);
            x.set(2, 9);
            e.row("the most", new int[] {x.law(0, 4, 2), x.law(1, 4, 2), x.law(2, 4, 2)}, 60, 58, 78);
        });
    }

    private void lawRefused() {
        e.of("22", "Throws `IndexOutOfBoundsException` if there is no such gate", x -> {
            for (int wrong : NO_GATE) {
                e.refused("gate " + wrong, y -> come(y, 1), y -> y.law(wrong, 0, 0), Edges.INDEX);
                e.refused("no rank, gate " + wrong, y -> come(y, 1), y -> y.law(wrong, 5, 0), Edges.INDEX);
                e.refused("no night, gate " + wrong, y -> come(y, 1), y -> y.law(wrong, 0, -1), Edges.INDEX);
            }
        });
        e.of("22", "Throws `IllegalArgumentException` if rank or night is out of range", x -> {
            for (int wrong : new int[] {-1, 5, LEAST, MOST}) {
                e.refused("rank " + wrong, y -> come(y, 1), y -> y.law(2, wrong, 0), Edges.ARGUMENT);
            }
        });
        e.of("22", "Throws `IllegalArgumentException` if rank or night is out of range", x -> {
            for (int wrong : new int[] {-1, -3, LEAST}) {
                for (int gate = 0; gate < 3; gate++) {
                    int its = gate;
                    e.refused("night " + wrong, y -> come(y, 1), y -> y.law(its, 0, wrong), Edges.ARGUMENT);
                }
            }
        });
    }

    private void count() {
        String what = "`what`: 0: the night; 1: guests; 2: guests inside; 3: guests in lines; 4: ribbons in purses; "
            + "5: ribbons in the chest; 6: debts of all; 7: ribbons in purses and the chest, told by what came, was "
            + "earned, and went; 8: lace of all coats; 9: lace in its chest; 10: lace of coats and its chest, told by "
            + "what came and went; 11: guests who were fined so far; 12: ells cut so far; 13: guests who are masked; "
            + "14: a mask of the guests inside, with the bit g for the guest g; 15 to 20: the settings 0 to 5; 21: "
            + "saved states";
        e.of("23", what, x -> {
            e.row("nothing", counts(x, 0, 21), 0, 0, 0, 0, 0, 0, 0, 0, 0, 0, 0, 0, 0, 0, 0, 2, 4, 3, 2, 2, 10, 0);
            x.come(0, 10, 5);
            e.row("one guest", counts(x, 0, 14), 0, 1, 0, 0, 5, 0, 0, 5, 10, 0, 10, 0, 0, 0, 0);
            x.mask(0);
            e.row("masked", counts(x, 0, 14), 0, 1, 0, 0, 2, 3, 0, 5, 10, 0, 10, 0, 0, 1, 0);
            x.queue(0, 0);
            e.row("in a line", counts(x, 0, 14), 0, 1, 0, 1, 2, 3, 0, 5, 10, 0, 10, 0, 0, 1, 0);
            x.open(0);
            e.row("inside", counts(x, 0, 14), 0, 1, 1, 0, 1, 4, 0, 5, 10, 0, 10, 0, 0, 1, 1);
            revel(x, "^;^;q0>0;o0");
            e.row("fined", counts(x, 0, 14), 2, 1, 1, 0, 0, 5, 15, 5, 2, 8, 10, 1, 8, 0, 1);
            revel(x, "^;q0>1");
            e.row("its debts bar it", counts(x, 0, 14), 3, 1, 0, 0, 0, 5, 15, 5, 2, 8, 10, 1, 8, 0, 0);
            x.leave(0);
            e.row("nobody", counts(x, 0, 14), 3, 0, 0, 0, 0, 5, 0, 5, 0, 8, 8, 1, 8, 0, 0);
            e.due("saved states", x.count(21), 6);
        });
    }

    private void countOfTen() {
        e.of("23", "14: a mask of the guests inside, with the bit g for the guest g;", x -> {
            come(x, 10);
            for (int i = 0; i < 10; i++) {
                enter(x, i, 2);
                e.due("up to " + i, x.count(14), (2 << i) - 1);
                e.due("guests inside", x.count(2), i + 1);
            }
            x.night();
            e.due("nobody", x.count(14), 0);
        });
        e.of("23", "13: guests who are masked;", x -> {
            come(x, 10);
            for (int i = 0; i < 10; i++) {
                e.due("so far", x.count(13), i);
                x.mask(i);
            }
            e.due("all", x.count(13), 10);
        });
        e.of("23", "3: guests in lines;", x -> {
            come(x, 10);
            for (int i = 0; i < 10; i++) {
                e.due("so far", x.count(3), i);
                x.queue(i, i % 3);
            }
            e.due("all", x.count(3), 10);
        });
        e.of("23", "4: ribbons in purses;", x -> {
            for (int i = 0; i < 10; i++) {
                x.come(0, 40, 99);
            }
            e.row("purses", counts(x, 4, 7), 990, 0, 0, 990);
            e.row("lace", counts(x, 8, 10), 400, 0, 400);
        });
        e.of("23", "11: guests who were fined so far; 12: ells cut so far;", x -> {
            x.come(0, 3, 9);
            x.come(0, 2, 9);
            enter(x, 0, 0);
            enter(x, 1, 0);
            e.row("one of two", counts(x, 11, 12), 1, 1);
            x.night();
            enter(x, 1, 1);
            e.row("both", counts(x, 11, 12), 2, 3);
            x.night();
            x.leave(0);
            e.row("so far, also one who left", counts(x, 11, 12), 2, 3);
        });
        e.of("23", "21: saved states", x -> {
            for (int i = 0; i < 9; i++) {
                e.due("so far", x.count(21), i < 6 ? i : 6);
                x.night();
            }
            x.undo();
            e.due("one less", x.count(21), 5);
        });
    }

    private void countRefused() {
        e.of("23", "Throws `IllegalArgumentException` if what is not 0 to 21", x -> {
            for (int wrong : new int[] {-1, 22, LEAST, MOST}) {
                e.refused("what " + wrong, y -> come(y, 2), y -> y.count(wrong), Edges.ARGUMENT);
            }
            e.row("the first and the last", new int[] {x.count(0), x.count(21)}, 0, 0);
        });
    }

    private void line() {
        e.of("24", "`gate`: 0 to 2", x -> {
            come(x, 6);
            revel(x, "q0>1;q1>2;q2>2;q3>1;q4>1");
            e.row("each gate", new int[] {x.line(0), x.line(1), x.line(2)}, 0, 3, 2);
        });
        e.of("24", "Returns how many stand there.", x -> {
            come(x, 10);
            for (int i = 0; i < 10; i++) {
                e.due("so far", x.line(0), i);
                x.queue(i, 0);
            }
            for (int i = 10; i > 0; i--) {
                e.due("still", x.line(0), i);
                x.open(0);
            }
            e.due("nobody", x.line(0), 0);
        });
        e.of("24", "Throws `IndexOutOfBoundsException` if there is no such gate", x -> {
            for (int wrong : NO_GATE) {
                e.refused("gate " + wrong, y -> come(y, 2), y -> y.line(wrong), Edges.INDEX);
            }
        });
    }

    private void noLoan() {
        e.of("25", "Returns the reason, 1 to 3; 0 if it can.", x -> {
            come(x, 4);
            revel(x, "l0>1;q3>0;o0");
            int[][] want = {{1, 2, 2, 2}, {2, 1, 2, 2}, {0, 3, 1, 3}, {0, 3, 0, 1}};
            for (int i = 0; i < 4; i++) {
                for (int j = 0; j < 4; j++) {
                    e.due(i + " to " + j, x.noLoan(i, j), want[i][j]);
                    String told = want[i][j] == 0 ? String.valueOf(x.guest(i, 3)) : Edges.STATE;
                    int one = i;
                    int other = j;
                    e.told("lend says the same", () -> x.lend(one, other), told);
                    if (want[i][j] == 0) {
                        x.undo();
                    }
                }
            }
        });
        e.noSuchGuest("25", NO_GUEST, (x, guest) -> x.noLoan(guest, 0));
        e.noSuchGuest("25", NO_GUEST, (x, guest) -> x.noLoan(0, guest));
        e.noSuchGuest("25", NO_GUEST, (x, guest) -> x.noLoan(guest, guest));
        e.everyGuest("25", "guest", (x, guest) -> x.noLoan(guest, 0));
        e.everyGuest("25", "other", (x, other) -> x.noLoan(0, other));
    }

    private void whyNot() {
        e.of("26", "`isMask`: true for a mask, false for a line", x -> {
            x.come(0, 0, 2);
            x.come(0, 0, 3);
            x.queue(1, 0);
            e.row("one of each", new int[] {x.whyNot(0, true), x.whyNot(0, false), x.whyNot(1, true),
                x.whyNot(1, false)}, 9, 0, 0, 6);
        });
        e.of("26", "Returns the reason, 5 to 7 or 8 to 9; 0 if it can.", x -> {
            x.come(0, 13, 2);
            x.come(0, 2, 3);
            e.row("at first", new int[] {x.whyNot(0, false), x.whyNot(1, true)}, 0, 0);
            x.queue(0, 0);
            e.due("in a line", x.whyNot(0, false), 6);
            x.open(0);
            e.due("inside", x.whyNot(0, false), 5);
            x.night();
            e.due("debts", x.whyNot(0, false), 7);
            x.mask(1);
            e.due("masked", x.whyNot(1, true), 8);
            x.night();
            x.night();
            e.due("no ribbons", x.whyNot(1, true), 9);
        });
        e.noSuchGuest("26", NO_GUEST, (x, guest) -> x.whyNot(guest, true));
        e.noSuchGuest("26", NO_GUEST, (x, guest) -> x.whyNot(guest, false));
        e.everyGuest("26", "guest", (x, guest) -> x.whyNot(guest, guest % 2 == 0));
    }

    private void ifOpened() {
        String what = "`what`: 0: ells that would be cut; 1: the fine; 2: ribbons that it would pay; 3: its debts then";
        e.of("27", what, x -> {
            x.come(0, 2, 9);
            x.come(0, 3, 9);
            x.come(0, 40, 0);
            e.row("as the law allows", brought(x, 0, 0), 0, 0, 0, 0);
            e.row("an ell too much", brought(x, 1, 0), 1, 2, 2, 0);
            e.row("without ribbons", brought(x, 2, 0), 38, 76, 0, 76);
            x.set(0, 0);
            x.set(3, 9);
            e.row("the most", brought(x, 2, 1), 40, 360, 0, 360);
        });
        e.of("27", what, x -> {
            x.come(0, 7, 9);
            x.come(0, 7, 10);
            x.come(0, 7, 11);
            for (int i = 0; i < 3; i++) {
                e.row("a fine of 10", brought(x, i, 0), 5, 10, i == 0 ? 9 : 10, i == 0 ? 1 : 0);
            }
        });
        e.of("27", what, x -> {
            x.come(0, 40, 4);
            x.come(0, 40, 3);
            x.come(0, 40, 5);
            revel(x, "m0;m1;m2;l2>1");
            e.row("masked, with one ribbon", brought(x, 0, 0), 0, 0, 1, 0);
            e.row("masked, without a ribbon, half by the lender", brought(x, 1, 0), 38, 76, 0, 74);
            e.row("masked, without a coat", brought(x, 2, 0), 0, 0, 0, 0);
        });
        e.of("27", what, x -> {
            x.come(0, 12, 9);
            x.come(0, 0, 1);
            x.set(3, 1);
            x.lend(0, 1);
            e.row("9 are left, half is 4", brought(x, 1, 0), 10, 10, 1, 5);
            x.earn(1, 8);
            e.row("1 is left, half is none", brought(x, 1, 0), 10, 10, 9, 1);
            x.earn(1, 1);
            e.row("none is left", brought(x, 1, 0), 10, 10, 10, 0);
        });
    }

    private void ifOpenedIsWhatHappens() {
        String tells = "Tells what a gate would bring to a guest, if it came to it now.";
        for (int gate = 0; gate < 3; gate++) {
            int itsGate = gate;
            e.of("27", tells, x -> {
                x.set(5, 99);
                for (int i = 0; i < 6; i++) {
                    x.come(i % 5, 13 + i, 4 * i);
                }
                revel(x, "^;m2;m1;l5>0;l3>5;m3");
                for (int i = 0; i < 6; i++) {
                    int[] due = brought(x, i, itsGate);
                    int purse = x.guest(i, 1);
                    e.due("ells", enter(x, i, itsGate), due[0]);
                    e.due("the fine, if one", due[1], 2 * due[0]);
                    e.due("ribbons", purse - x.guest(i, 1), due[2]);
                    e.due("debts", x.guest(i, 2), due[3]);
                }
            });
        }
        e.of("27", tells, x -> {
            x.come(0, 7, 0);
            enter(x, 0, 0);
            e.row("earlier debts, as the law allows", brought(x, 0, 0), 0, 0, 0, 10);
            e.row("earlier debts, and a fine", brought(x, 0, 1), 2, 4, 0, 14);
            x.night();
            e.row("the law of this night", brought(x, 0, 2), 0, 0, 0, 10);
        });
    }

    private void ifOpenedRefused() {
        for (int what = 0; what <= 3; what++) {
            int number = what;
            e.noSuchGuest("27", NO_GUEST_OR_GATE, (x, guest) -> x.ifOpened(guest, 2, number));
        }
        e.everyGuest("27", "guest", (x, guest) -> x.ifOpened(guest, 2, 3));
        e.of("27", "`gate`: 0 to 2", x -> {
            x.come(0, 20, 0);
            x.night();
            e.row("each gate", new int[] {x.ifOpened(0, 0, 0), x.ifOpened(0, 1, 0), x.ifOpened(0, 2, 0)}, 18, 20, 15);
        });
        e.of("27", NO_GUEST_OR_GATE, x -> {
            for (int wrong : NO_GATE) {
                e.refused("gate " + wrong, y -> come(y, 2), y -> y.ifOpened(0, wrong, 0), Edges.INDEX);
                e.refused("no number, gate " + wrong, y -> come(y, 2), y -> y.ifOpened(0, wrong, 4), Edges.INDEX);
            }
        });
        e.of("27", "Throws `IllegalArgumentException` if what is not 0 to 3", x -> {
            for (int wrong : new int[] {-1, 4, LEAST, MOST}) {
                e.refused("what " + wrong, y -> come(y, 2), y -> y.ifOpened(1, 2, wrong), Edges.ARGUMENT);
                e.refused("no guest, what " + wrong, y -> come(y, 2), y -> y.ifOpened(2, 2, wrong), Edges.INDEX);
            }
        });
    }

    private void bestGate() {
        String best = "Returns the gate at which the fewest ells would be cut now; of several the one with the "
            + "shortest line; of several of those the lowest.";
        e.of("28", best, x -> {
            x.come(0, 40, 0);
            e.due("38, 40, 38 ells", x.bestGate(0), 0);
            x.night();
            e.due("38, 40, 35 ells", x.bestGate(0), 2);
            x.set(2, 0);
            e.due("38, 40, 38 ells", x.bestGate(0), 0);
            x.set(0, 0);
            e.due("40, 40, 40 ells", x.bestGate(0), 0);
            x.set(2, 1);
            e.due("40, 40, 39 ells", x.bestGate(0), 2);
        });
        e.of("28", best, x -> {
            x.come(0, 40, 4);
            x.night();
            x.mask(0);
            e.due("none at all, masked", x.bestGate(0), 0);
            x.queue(0, 0);
            x.open(0);
            e.due("without a ribbon the mask is nothing", x.bestGate(0), 2);
        });
        e.of("28", best, x -> {
            x.come(0, 40, 0);
            x.come(0, 0, 0);
            x.night();
            x.lend(0, 1);
            e.due("without a coat none at all", x.bestGate(0), 0);
            e.due("in the coat that was lent", x.bestGate(1), 2);
        });
        e.of("28", best, x -> {
            x.come(0, 40, 0);
            come(x, 9);
            x.night();
            for (int i = 1; i < 10; i++) {
                x.queue(i, 2);
                e.due("fewer ells, whatever the line", x.bestGate(0), 2);
            }
        });
        e.noSuchGuest("28", NO_GUEST, LaceRanks::bestGate);
        e.everyGuest("28", "guest", LaceRanks::bestGate);
    }

    private void bestGateOfTwo() {
        String shortest = "of several the one with the shortest line; of several of those the lowest.";
        e.of("28", shortest, x -> {
            x.come(0, 0, 0);
            come(x, 9);
            e.due("all lines are empty", x.bestGate(0), 0);
            int[] next = {0, 1, 2, 1, 0, 2};
            int[] due = {1, 2, 0, 0, 2, 0};
            for (int i = 0; i < next.length; i++) {
                x.queue(i + 1, next[i]);
                e.due("with " + (i + 1) + " in lines", x.bestGate(0), due[i]);
            }
        });
        e.of("28", shortest, x -> {
            x.come(0, 10, 0);
            come(x, 4);
            e.due("8, 10, 8 ells", x.bestGate(0), 0);
            x.queue(1, 0);
            e.due("a shorter line at 2, not at 1", x.bestGate(0), 2);
            x.queue(2, 2);
            e.due("as long lines", x.bestGate(0), 0);
            x.queue(3, 2);
            e.due("a shorter line at 0", x.bestGate(0), 0);
            x.queue(0, 0);
            e.due("its own place counts too: as long lines", x.bestGate(0), 0);
        });
    }

    private void freeIn() {
        String nights = "Returns behind how many nights, 0 for this one, the law of the gate allows the lace that it "
            + "wears (masks do not matter); NONE if not in 6.";
        e.of("29", nights, x -> {
            for (int lace = 0; lace <= 9; lace++) {
                x.come(0, lace, 9);
                int due = lace <= 2 ? 0 : lace <= 5 ? 1 : lace <= 8 ? 2 : NONE;
                e.due("at gate 2 with " + lace, x.freeIn(lace, 2), due);
                e.due("at gate 0 with " + lace, x.freeIn(lace, 0), lace <= 2 ? 0 : NONE);
                e.due("at gate 1 with " + lace, x.freeIn(lace, 1), lace == 0 ? 0 : NONE);
            }
        });
        e.of("29", nights, x -> {
            x.come(0, 9, 9);
            x.mask(0);
            e.due("masks do not matter", x.freeIn(0, 0), NONE);
            e.due("masks do not matter", x.freeIn(0, 2), NONE);
            x.set(2, 4);
            e.due("the law of this setting", x.freeIn(0, 2), 2);
            x.set(2, 9);
            e.due("the law of this setting", x.freeIn(0, 2), 1);
            x.set(2, 0);
            e.due("the law of this setting", x.freeIn(0, 2), NONE);
            x.set(0, 20);
            e.due("the law of this setting", x.freeIn(0, 2), 0);
        });
        e.of("29", nights, x -> {
            x.come(0, 40, 9);
            x.come(4, 0, 9);
            x.lend(0, 1);
            e.due("without a coat", x.freeIn(0, 1), 0);
            e.due("in a coat that was lent", x.freeIn(1, 0), NONE);
            x.set(2, 9);
            x.set(0, 4);
            e.due("as its own rank allows: 20, 29, 38", x.freeIn(1, 2), NONE);
            x.set(0, 6);
            e.due("as its own rank allows: 22, 31, 40", x.freeIn(1, 2), 2);
        });
        for (int gate = 0; gate < 3; gate++) {
            int its = gate;
            e.noSuchGuest("29", NO_GUEST_OR_GATE, (x, guest) -> x.freeIn(guest, its));
        }
        e.everyGuest("29", "guest", (x, guest) -> x.freeIn(guest, 2));
        e.of("29", "`gate`: 0 to 2", x -> {
            x.come(1, 6, 0);
            e.row("each gate", new int[] {x.freeIn(0, 0), x.freeIn(0, 1), x.freeIn(0, 2)}, 0, NONE, 0);
            x.set(0, 1);
            e.row("each gate", new int[] {x.freeIn(0, 0), x.freeIn(0, 1), x.freeIn(0, 2)}, NONE, NONE, 1);
        });
        e.of("29", NO_GUEST_OR_GATE, x -> {
            for (int wrong : NO_GATE) {
                e.refused("gate " + wrong, y -> come(y, 2), y -> y.freeIn(1, wrong), Edges.INDEX);
                e.refused("no guest, gate " + wrong, y -> come(y, 2), y -> y.freeIn(2, wrong), Edges.INDEX);
            }
        });
    }

    private void freeInAlongTheNights() {
        e.of("29", "Returns behind how many nights, 0 for this one, the law of the gate allows the lace", x -> {
            x.come(0, 2, 0);
            x.come(0, 5, 0);
            x.come(0, 8, 0);
            x.come(0, 9, 0);
            int[][] due = {{0, 1, 2, NONE}, {0, 0, 1, NONE}, {0, 0, 0, NONE}};
            for (int night = 0; night < 7; night++) {
                for (int i = 0; i < 4; i++) {
                    e.due("in night " + night, x.freeIn(i, 2), due[night % 3][i]);
                }
                x.night();
            }
        });
    }

    private void decentShare() {
        String share = "Returns the guests whose lace that they wear the gate 0 allows in this night, as a double, "
            + "divided by all guests; 1.0 without any.";
        e.of("30", share, x -> {
            e.due("without any", x.decentShare(), 1.0);
            come(x, 1);
            x.leave(0);
            e.due("without any once more", x.decentShare(), 1.0);
        });
        e.of("30", share, x -> {
            x.come(0, 3, 9);
            e.due("an ell too much", x.decentShare(), 0.0);
            x.mask(0);
            e.due("masks do not matter", x.decentShare(), 0.0);
            x.set(0, 3);
            e.due("as much as it allows", x.decentShare(), 1.0);
            x.night();
            x.set(0, 2);
            e.due("gate 0, not gate 2", x.decentShare(), 0.0);
        });
        for (int guests = 1; guests <= 10; guests++) {
            int all = guests;
            e.of("30", share, x -> {
                for (int i = 0; i < all; i++) {
                    x.come(0, 3, 9);
                }
                for (int decent = 0; decent <= all; decent++) {
                    e.due(decent + " of " + all, x.decentShare(), (double) decent / all);
                    if (decent < all) {
                        enter(x, decent, 0);
                    }
                }
            });
        }
        e.of("30", share, x -> {
            x.come(0, 40, 9);
            x.come(4, 0, 9);
            x.come(4, 18, 9);
            x.lend(0, 1);
            e.due("one without a coat, one in a lent one, one in its own", x.decentShare(), 2.0 / 3.0);
        });
    }

    private void digest() {
        String list = "The values are: count(0) to count(21); for each guest its numbers 0 to 10, whyNot of a mask "
            + "and of a line, bestGate, and for each gate ifOpened with 0 to 3, and freeIn; for each gate its line, "
            + "law of the ranks 0 to 4 in this night, and each guest in its line; stopped with 0 and 1; the bits of "
            + "decentShare (as Double.doubleToLongBits); the length of the buffer and each of its character codes.";
        String hash = "The hash starts at 3923. For each value v of the following list, in order, the hash becomes 31 "
            + "* hash + v, in long arithmetic with overflow.";
        e.of("31", hash, x -> e.due("a new object", x.digest(), digestOf(x, "")));
        e.of("31", list, x -> {
            come(x, 10);
            revel(x, "l0>9;l1>0;m5;q5>0;q9>0;q0>1;q3>1;o1;q2>2;q7>2;q8>0;m5");
            String full = "~!~!~!~!~!~!~!~!~!~!~!~!~!~!~!~!~!~!~!~!~!~!~!~!~!~!~!~!~!~!";
            type(x, full);
            long due = digestOf(x, full);
            e.due("10 guests, three lines, a stop and 60 characters", x.digest(), due);
        });
        e.of("31", list, x -> {
            type(x, "~");
            e.due("one character", x.digest(), digestOf(x, "~"));
            x.append('!');
            e.due("two", x.digest(), digestOf(x, "~!"));
            x.clearBuffer();
            e.due("none", x.digest(), digestOf(x, ""));
        });
        for (int guests = 1; guests <= 10; guests++) {
            int all = guests;
            e.of("31", "the bits of decentShare (as Double.doubleToLongBits);", x -> {
                for (int decent = 0; decent <= all; decent++) {
                    LaceRanks y = new LaceRanks();
                    for (int i = 0; i < all; i++) {
                        y.come(0, i < decent ? 2 : 3, i);
                    }
                    e.due(decent + " of " + all, y.digest(), digestOf(y, ""));
                }
            });
        }
    }

    private void looksChangeNothing() {
        e.of("31", "Computes a hash of the whole state.", x -> {
            come(x, 4);
            revel(x, "^;l0>1;q2>1;m3;m3");
            long before = x.digest();
            e.due("once more", x.digest(), before);
            digestOf(x, "");
            x.noLoan(0, 1);
            x.firstError();
            x.keep();
            e.due("behind all looks and keep", x.digest(), before);
            x.append('!');
            e.due("not behind append", x.digest() != before, true);
            x.clearBuffer();
            e.due("but behind clearBuffer", x.digest(), before);
        });
    }
}
