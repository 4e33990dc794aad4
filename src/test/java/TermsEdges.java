/** The edges that the sections ahead of the promises name: guests, coats, gates, laws, opening, nights, accounts. */
final class TermsEdges extends Runs {
    private static final String COATS = "Guests, coats";
    private static final String GATES = "Gates, laws";
    private static final String OPENING = "Opening a gate";
    private static final String NIGHTS = "Nights";
    private static final String ACCOUNTS = "Accounts";

    private final Edges e;

    private TermsEdges(Edges e) {
        this.e = e;
    }

    static void run(Edges e) {
        TermsEdges all = new TermsEdges(e);
        all.calls();
        all.divisions();
        all.guestsAndTheirNumbers();
        all.purses();
        all.debtsLaceAndMasks();
        all.newcomers();
        all.whoWearsWhat();
        all.reasonsOfLoans();
        all.firstReasonOfLoans();
        all.coatsGivenBack();
        all.gates();
        all.laws();
        all.lines();
        all.firstReasonOfLines();
        all.firstOfTheLine();
        all.withoutCoat();
        all.masked();
        all.asTheLawAllows();
        all.fines();
        all.finesOfLenders();
        all.laceThatIsCut();
        all.nights();
        all.masks();
        all.paying();
        all.accounts();
    }

    private void calls() {
        String used = "An object is used for at most 512 calls after it has been made";
        e.of("What it is", used, x -> {
            for (int i = 1; i <= 510; i++) {
                e.due("call " + i, x.night(), 0);
            }
            e.due("call 511", x.count(21), 6);
            e.due("call 512", x.count(0), 510);
        });
        e.of("What it is", used, x -> {
            for (int i = 1; i <= 8; i++) {
                e.due("30 nights", revel(x, "^;^;^;^;^;^;^;^;^;^;^;^;^;^;^;^;^;^;^;^;^;^;^;^;^;^;^;^;^;^"), 30);
            }
            e.due("call 481", x.count(0), 240);
            for (int i = 482; i < 512; i += 2) {
                e.due("call " + i, x.come(0, 0, 0), 0);
                e.due("call " + (i + 1), x.undo(), 5);
            }
            e.due("call 512", x.count(1), 0);
        });
    }

    private void divisions() {
        e.of("Terms", "All numbers are integers, but for a share;", x -> {
            x.come(0, 2, 0);
            x.come(0, 3, 0);
            e.due("a share of one half", x.decentShare(), 0.5);
        });
        e.of("Terms", "divisions are rounded down.", x -> {
            x.come(0, 3, 9);
            x.come(0, 0, 0);
            x.set(3, 9);
            x.lend(0, 1);
            enter(x, 1, 0);
            e.row("half of 9: the one who lent, the debt", new int[] {x.guest(0, 1), x.guest(1, 2)}, 5, 5);
        });
    }

    private void guestsAndTheirNumbers() {
        String most = "There are at most 10 guests, numbered from 0.";
        e.of(COATS, most, x -> {
            e.due("no guest", x.count(1), 0);
            for (int i = 0; i < 10; i++) {
                e.due("the number of one who comes", x.come(i % 5, 4 * i, 9 * i), i);
                e.due("guests", x.count(1), i + 1);
            }
            for (int i = 0; i < 10; i++) {
                e.row("one of 10", numbers(x, i), i % 5, 9 * i, 0, 4 * i, i, 4 * i, 0, 0, NONE, NONE, NONE);
            }
        });
        e.of(COATS, most, x -> {
            come(x, 10);
            e.told("an eleventh", () -> x.come(0, 0, 0), Edges.STATE);
            e.due("guests", x.count(1), 10);
            x.leave(0);
            e.due("a tenth anew", x.come(3, 7, 8), 9);
            e.row("the tenth", numbers(x, 9), 3, 8, 0, 7, 9, 7, 0, 0, NONE, NONE, NONE);
            e.told("an eleventh", () -> x.come(0, 0, 0), Edges.STATE);
        });
        e.of(COATS, "A guest has a rank, 0 to 4;", x -> {
            for (int rank = 0; rank <= 4; rank++) {
                x.come(rank, 0, 0);
                e.due("its rank", x.guest(rank, 0), rank);
            }
            e.told("below", () -> x.come(-1, 0, 0), Edges.ARGUMENT);
            e.told("above", () -> x.come(5, 0, 0), Edges.ARGUMENT);
        });
    }

    private void purses() {
        String purse = "a purse of ribbons, 0 to 999";
        e.of(COATS, purse, x -> {
            x.come(0, 0, 0);
            e.due("the least", x.guest(0, 1), 0);
            for (int i = 1; i <= 10; i++) {
                e.due("earned", x.earn(0, 99), 99 * i);
            }
            e.due("one less than the most", x.earn(0, 8), 998);
            e.due("the most", x.earn(0, 1), 999);
            e.due("no more", x.earn(0, 1), 999);
            e.due("no more", x.earn(0, 99), 999);
            e.due("its purse", x.guest(0, 1), 999);
        });
        e.of(COATS, purse, x -> {
            x.come(0, 0, 9);
            for (int i = 1; i <= 10; i++) {
                x.earn(0, 99);
            }
            e.due("999 by an earning of which nothing is too much", x.guest(0, 1), 999);
            x.mask(0);
            e.due("up to 999 again, by 3 of 99", x.earn(0, 99), 999);
            e.due("only those 3 were earned", x.count(7), 1002);
        });
        e.of(COATS, purse, x -> {
            x.come(0, 40, 5);
            enter(x, 0, 0);
            e.due("not below 0 by a fine", x.guest(0, 1), 0);
            x.pay(0);
            e.due("not below 0 by paying", x.guest(0, 1), 0);
        });
    }

    private void debtsLaceAndMasks() {
        e.of(COATS, "debts in ribbons, at first 0;", x -> {
            x.come(4, 40, 0);
            e.due("its debts", x.guest(0, 2), 0);
            e.due("debts of all", x.count(6), 0);
        });
        e.of(COATS, "debts in ribbons, at first 0;", x -> {
            x.come(0, 40, 0);
            enter(x, 0, 0);
            x.night();
            e.due("the debts of one who leaves", x.leave(0), 76);
            x.come(0, 2, 0);
            e.due("not those of the next one", x.guest(0, 2), 0);
            e.due("debts of all", x.count(6), 0);
            e.due("there is nothing to pay", x.pay(0), 0);
        });
        e.of(COATS, "a coat of its own with lace, in ells, 0 to 40;", x -> {
            x.come(0, 0, 0);
            x.come(0, 40, 0);
            e.row("the least", numbers(x, 0), 0, 0, 0, 0, 0, 0, 0, 0, NONE, NONE, NONE);
            e.row("the most", numbers(x, 1), 0, 0, 0, 40, 1, 40, 0, 0, NONE, NONE, NONE);
            e.told("below", () -> x.come(0, -1, 0), Edges.ARGUMENT);
            e.told("above", () -> x.come(0, 41, 0), Edges.ARGUMENT);
            x.set(5, 99);
            e.due("all that can be cut", enter(x, 1, 1), 40);
            e.due("no lace", x.guest(1, 3), 0);
            x.night();
            x.set(5, 0);
            x.pay(1);
            e.due("without lace nothing is cut", enter(x, 0, 1), 0);
            e.due("no lace", x.guest(0, 3), 0);
        });
        e.of(COATS, "nights for which a mask is good still, at first 0 (a guest with 1 or more is masked)", x -> {
            x.come(0, 0, 99);
            e.due("at first", x.guest(0, 6), 0);
            e.due("with 0 it is not masked", x.count(13), 0);
            e.due("with 0 it is not masked", x.whyNot(0, true), 0);
            x.set(4, 2);
            x.mask(0);
            e.due("with 2 it is masked", x.count(13), 1);
            x.night();
            e.due("one night", x.guest(0, 6), 1);
            e.due("with 1 it is masked", x.count(13), 1);
            e.due("with 1 it is masked", x.whyNot(0, true), 8);
            e.due("with 1 it pays as a masked one", x.ifOpened(0, 0, 2), 1);
            x.night();
            e.due("no night", x.guest(0, 6), 0);
            e.due("with 0 it is not masked any more", x.count(13), 0);
            e.due("with 0 it is not masked any more", x.whyNot(0, true), 0);
            e.due("with 0 it pays nothing", x.ifOpened(0, 0, 2), 0);
        });
    }

    private void newcomers() {
        e.of(COATS, "nights for which a mask is good still, at first 0", x -> {
            come(x, 2);
            x.mask(1);
            x.leave(1);
            x.come(0, 0, 9);
            e.due("not the mask of one who left", x.guest(1, 6), 0);
            x.mask(1);
            x.leave(0);
            x.come(0, 0, 9);
            e.row("nor of one who has another number now", new int[] {x.guest(0, 6), x.guest(1, 6)}, 2, 0);
        });
        e.of(COATS, "There are at most 10 guests, numbered from 0.", x -> {
            x.come(4, 0, 0);
            x.come(0, 0, 0);
            x.queue(1, 0);
            x.open(0);
            x.leave(0);
            e.due("one comes", x.come(0, 1, 2), 1);
            e.row("with nothing of those before", numbers(x, 1), 0, 2, 0, 1, 1, 1, 0, 0, NONE, NONE, NONE);
            e.due("only the other one is inside", x.count(14), 1);
        });
    }

    private void whoWearsWhat() {
        e.of(COATS, "A guest wears the own coat, or one that was lent to it;", x -> {
            come(x, 2);
            e.due("the own one", x.guest(0, 4), 0);
            e.due("the own one", x.guest(1, 4), 1);
            x.lend(0, 1);
            e.due("the one that was lent to it", x.guest(1, 4), 0);
        });
        String alone = "a coat that is lent is worn by that guest alone, and the guest who lent it wears none, unless "
            + "another one was lent to it.";
        e.of(COATS, alone, x -> {
            come(x, 10);
            x.lend(0, 9);
            for (int i = 1; i < 9; i++) {
                e.due("not the coat of 0", x.guest(i, 4), i);
            }
            e.due("the coat of 0", x.guest(9, 4), 0);
            e.due("the one who lent it wears none", x.guest(0, 4), NONE);
            e.due("and no lace", x.guest(0, 5), 0);
            x.lend(8, 0);
            e.due("unless another one was lent to it", x.guest(0, 4), 8);
            e.due("its lace", x.guest(0, 5), 10);
            e.due("the coat of 0 is worn as before", x.guest(9, 4), 0);
        });
        e.of(COATS, "(A guest wears one coat at most.)", x -> {
            come(x, 3);
            x.lend(0, 1);
            e.told("a second one", () -> x.lend(2, 1), Edges.STATE);
            e.told("the own one beside it", () -> x.lend(1, 2), Edges.STATE);
            e.due("the one", x.guest(1, 4), 0);
            e.due("not the second one", x.guest(2, 4), 2);
        });
        String home = "The one to whom a coat is lent leaves the own coat at home; it is not worn by anybody then.";
        e.of(COATS, home, x -> {
            x.come(0, 7, 0);
            x.come(0, 40, 0);
            x.lend(0, 1);
            e.due("the own coat stays its own", x.guest(1, 3), 40);
            e.due("it is not lent", x.guest(1, 10), NONE);
            e.due("nobody wears it", x.guest(0, 4) != 1 && x.guest(1, 4) != 1, true);
            e.due("the coat that was lent is cut", enter(x, 1, 0), 5);
            e.due("the own one is not", x.guest(1, 3), 40);
            x.night();
            x.giveBack(1);
            e.due("it is worn again", x.guest(1, 5), 40);
        });
    }

    private void reasonsOfLoans() {
        e.of(COATS, "1: both guests are the same;", x -> {
            come(x, 10);
            e.due("the first", x.noLoan(0, 0), 1);
            e.due("the last", x.noLoan(9, 9), 1);
            e.due("others", x.noLoan(0, 9), 0);
            e.due("others", x.noLoan(9, 8), 0);
        });
        e.of(COATS, "2: the one does not wear the own coat;", x -> {
            come(x, 5);
            x.lend(0, 1);
            e.due("it lent it away, and wears none", x.noLoan(0, 3), 2);
            e.due("it wears one that was lent", x.noLoan(1, 3), 2);
            x.lend(2, 0);
            e.due("it lent it away, and wears another one", x.noLoan(0, 3), 2);
            e.due("the other one wears none", x.noLoan(3, 2), 0);
            x.giveBack(1);
            e.due("its own is at home, and it wears another one", x.noLoan(0, 3), 2);
            e.due("it wears the own one again", x.noLoan(1, 3), 0);
        });
        String other = "3: the other one wears a coat that was lent, or is inside.";
        e.of(COATS, other, x -> {
            come(x, 6);
            x.lend(0, 1);
            e.due("it wears one that was lent", x.noLoan(2, 1), 3);
            e.due("it wears none", x.noLoan(2, 0), 0);
            x.queue(3, 0);
            e.due("it stands in a line", x.noLoan(2, 3), 0);
            x.open(0);
            e.due("it is inside", x.noLoan(2, 3), 3);
            x.mask(4);
            e.due("it is masked", x.noLoan(2, 4), 0);
            enter(x, 0, 0);
            e.due("it is inside and wears none", x.noLoan(2, 0), 3);
            enter(x, 1, 0);
            e.due("it is inside and wears one that was lent", x.noLoan(2, 1), 3);
            x.night();
            e.due("it is inside no more", x.noLoan(2, 3), 0);
            e.due("it is inside no more", x.noLoan(2, 0), 0);
            e.due("it wears one that was lent, still", x.noLoan(2, 1), 3);
            x.giveBack(1);
            e.due("it wears the own one again", x.noLoan(2, 1), 0);
        });
        e.of(COATS, other, x -> {
            come(x, 2);
            enter(x, 0, 0);
            e.due("that the one is inside is no reason", x.noLoan(0, 1), 0);
            e.due("it can be lent", x.lend(0, 1), 2);
        });
    }

    private void firstReasonOfLoans() {
        String first = "A coat cannot be lent for the first of these reasons that applies:";
        e.of(COATS, first, x -> {
            come(x, 4);
            x.lend(0, 1);
            e.due("1 and 2", x.noLoan(0, 0), 1);
            e.due("1, 2 and 3", x.noLoan(1, 1), 1);
            e.due("2 and 3", x.noLoan(0, 1), 2);
            e.due("2 alone", x.noLoan(0, 2), 2);
            e.due("3 alone", x.noLoan(2, 1), 3);
            enter(x, 3, 0);
            e.due("1 and 3", x.noLoan(3, 3), 1);
            e.due("2 and 3", x.noLoan(1, 3), 2);
            e.due("none", x.noLoan(2, 0), 0);
        });
    }

    private void coatsGivenBack() {
        String back = "A coat that was lent can be given back, if neither of both is inside (else reason 4)";
        e.of(COATS, back, x -> {
            come(x, 3);
            x.lend(0, 1);
            x.queue(0, 0);
            x.queue(1, 1);
            e.due("both in lines", x.giveBack(1), 0);
            x.undo();
            x.open(0);
            e.told("the one who lent it is inside", () -> x.giveBack(1), Edges.STATE);
            x.open(1);
            e.told("both are inside", () -> x.giveBack(1), Edges.STATE);
            x.night();
            e.due("neither is inside any more", x.giveBack(1), 0);
        });
        e.of(COATS, back, x -> {
            come(x, 3);
            x.lend(0, 1);
            enter(x, 2, 2);
            e.due("a third one inside", x.giveBack(1), 0);
            x.undo();
            enter(x, 1, 0);
            e.told("the one who wears it is inside", () -> x.giveBack(1), Edges.STATE);
        });
        e.of(COATS, "the one who lent it wears it then, if it wears no coat that was lent;", x -> {
            come(x, 3);
            x.lend(0, 1);
            x.giveBack(1);
            e.due("it wears none: it wears its own then", x.guest(0, 4), 0);
            e.due("it is not lent any more", x.guest(0, 10), NONE);
            x.lend(0, 1);
            x.lend(2, 0);
            x.giveBack(1);
            e.due("it wears one that was lent: it goes on with that", x.guest(0, 4), 2);
            e.due("the own one is at home", x.guest(0, 10), NONE);
            x.giveBack(0);
            e.due("and wears its own when that one is given back", x.guest(0, 4), 0);
        });
        e.of(COATS, "the other one wears the own coat, if that is not lent away.", x -> {
            come(x, 3);
            x.lend(0, 1);
            x.giveBack(1);
            e.due("it is not lent away", x.guest(1, 4), 1);
            x.lend(1, 2);
            x.lend(0, 1);
            x.giveBack(1);
            e.due("it is lent away: none", x.guest(1, 4), NONE);
            e.due("its own is worn by the one who has it", x.guest(2, 4), 1);
        });
    }

    private void gates() {
        e.of(GATES, "There are 3 gates, 0 to 2, each with a line of guests, and a law", x -> {
            come(x, 3);
            for (int gate = 0; gate < 3; gate++) {
                e.due("its line", x.line(gate), 0);
                e.due("in its line", x.queue(gate, gate), 0);
                e.due("its line", x.line(gate), 1);
                e.due("no other line", x.count(3), gate + 1);
                e.due("its law", x.law(gate, 4, 0), gate == 1 ? 16 : 18);
            }
            for (int gate : new int[] {-1, 3, LEAST, MOST}) {
                e.told("line " + gate, () -> x.line(gate), Edges.INDEX);
                e.told("law " + gate, () -> x.law(gate, 0, 0), Edges.INDEX);
                e.told("open " + gate, () -> x.open(gate), Edges.INDEX);
            }
        });
    }

    private void laws() {
        e.of(GATES, "gate 0: setting 0 and setting 1 times the rank, together;", x -> {
            x.set(0, 0);
            x.set(1, 0);
            e.due("the least", x.law(0, 4, 2), 0);
            x.set(1, 10);
            e.due("rank 0", x.law(0, 0, 2), 0);
            e.due("rank 1", x.law(0, 1, 2), 10);
            x.set(0, 20);
            e.due("rank 0", x.law(0, 0, 2), 20);
            e.due("the most", x.law(0, 4, 2), 60);
        });
        e.of(GATES, "gate 1: the same, less 2, at least 0;", x -> {
            for (int ells = 0; ells <= 4; ells++) {
                x.set(0, ells);
                e.due(ells + " ells, less 2", x.law(1, 0, 0), ells > 2 ? ells - 2 : 0);
            }
            x.set(0, 1);
            x.set(1, 0);
            e.due("1 ell for each rank, less 2", x.law(1, 4, 2), 0);
            x.set(0, 20);
            x.set(1, 10);
            e.due("the most", x.law(1, 4, 2), 58);
        });
        String third = "gate 2: the same, and as many more as are left of the night by 3, times setting 2.";
        e.of(GATES, third, x -> {
            int[] left = {0, 1, 2, 0, 1, 2, 0, 1, 2, 0};
            for (int night = 0; night < 10; night++) {
                e.due("night " + night, x.law(2, 1, night), 6 + 3 * left[night]);
            }
            e.due("the last night", x.law(2, 1, MOST), 9);
            e.due("the one before", x.law(2, 1, MOST - 1), 6);
            e.due("the one before that", x.law(2, 1, MOST - 2), 12);
            x.set(2, 0);
            e.due("none more", x.law(2, 1, 2), 6);
            x.set(2, 9);
            e.due("none more in night 3", x.law(2, 1, 3), 6);
            x.set(0, 20);
            x.set(1, 10);
            e.due("the most", x.law(2, 4, 2), 78);
        });
        e.of(GATES, third, x -> {
            x.come(0, 9, 0);
            int[] ells = {7, 4, 1, 7, 4, 1, 7};
            for (int night = 0; night < 7; night++) {
                e.due("what the gate would cut in night " + night, x.ifOpened(0, 2, 0), ells[night]);
                x.night();
            }
        });
    }

    private void lines() {
        e.of(GATES, "A guest stands in a line once at most.", x -> {
            come(x, 2);
            x.queue(0, 1);
            for (int gate = 0; gate < 3; gate++) {
                int again = gate;
                e.told("once more at " + gate, () -> x.queue(0, again), Edges.STATE);
            }
            e.due("all in lines", x.count(3), 1);
        });
        e.of(GATES, "5: it is inside;", x -> {
            come(x, 1);
            enter(x, 0, 0);
            e.due("inside", x.whyNot(0, false), 5);
            x.night();
            e.due("inside no more", x.whyNot(0, false), 0);
        });
        e.of(GATES, "6: it stands in a line;", x -> {
            come(x, 1);
            x.queue(0, 2);
            e.due("in a line", x.whyNot(0, false), 6);
            x.night();
            e.due("in none any more", x.whyNot(0, false), 0);
        });
        e.of(GATES, "7: its debts are above setting 5.", x -> {
            x.come(0, 13, 0);
            enter(x, 0, 0);
            x.night();
            e.due("its debts", x.guest(0, 2), 22);
            x.set(5, 21);
            e.due("debts one above it", x.whyNot(0, false), 7);
            x.set(5, 22);
            e.due("debts as high as it", x.whyNot(0, false), 0);
            x.set(5, 23);
            e.due("debts one below it", x.whyNot(0, false), 0);
            e.due("it stands there", x.queue(0, 0), 0);
        });
        e.of(GATES, "7: its debts are above setting 5.", x -> {
            x.come(0, 3, 0);
            x.come(0, 0, 0);
            x.come(0, 13, 0);
            x.come(0, 27, 0);
            x.set(3, 1);
            enter(x, 0, 0);
            x.set(3, 9);
            enter(x, 2, 0);
            x.set(3, 4);
            enter(x, 3, 0);
            x.night();
            x.set(5, 0);
            e.due("debts of 1 above the least", x.whyNot(0, false), 7);
            e.due("no debts", x.whyNot(1, false), 0);
            x.set(5, 99);
            e.due("debts of 99 at the most", x.whyNot(2, false), 0);
            e.due("debts of 100 above the most", x.whyNot(3, false), 7);
        });
    }

    private void firstReasonOfLines() {
        e.of(GATES, "It cannot stand in a line for the first of these reasons:", x -> {
            x.come(0, 40, 0);
            x.come(0, 3, 0);
            enter(x, 0, 0);
            e.due("5 and 7", x.whyNot(0, false), 5);
            enter(x, 1, 0);
            x.night();
            e.due("7 alone", x.whyNot(0, false), 7);
            e.due("2 ribbons do not bar", x.queue(1, 1), 0);
            x.set(5, 1);
            e.due("6 and 7", x.whyNot(1, false), 6);
        });
    }

    private void firstOfTheLine() {
        e.of(OPENING, "When a gate is opened, the first guest of its line comes:", x -> {
            come(x, 10);
            int[] order = {7, 0, 9, 3};
            for (int i = 0; i < 4; i++) {
                e.due("its place", x.queue(order[i], 1), i);
            }
            x.queue(5, 0);
            int inside = 0;
            for (int i = 0; i < 4; i++) {
                x.open(1);
                inside += 1 << order[i];
                e.due("inside", x.count(14), inside);
                e.due("it stands in no line", x.guest(order[i], 8), NONE);
                for (int j = i + 1; j < 4; j++) {
                    e.due("the others are one place on", x.guest(order[j], 9), j - i - 1);
                }
            }
            e.told("nobody is left", () -> x.open(1), Edges.STATE);
            e.due("the other line stays", x.line(0), 1);
        });
    }

    private void withoutCoat() {
        e.of(OPENING, "If it wears no coat, it goes in.", x -> {
            x.come(0, 40, 9);
            x.come(0, 0, 0);
            x.set(0, 0);
            x.mask(0);
            x.lend(0, 1);
            e.due("nothing is cut", enter(x, 0, 1), 0);
            e.row("it pays no ribbon, also masked", numbers(x, 0), 0, 6, 0, 40, NONE, 0, 2, 1, NONE, NONE, 1);
            e.row("nobody is fined", counts(x, 11, 12), 0, 0);
        });
        e.of(OPENING, "If it wears no coat, it goes in.", x -> {
            x.come(0, 40, 9);
            x.come(0, 0, 0);
            x.lend(0, 1);
            e.due("nothing is cut", enter(x, 0, 0), 0);
            e.row("it pays nothing", numbers(x, 0), 0, 9, 0, 40, NONE, 0, 0, 1, NONE, NONE, 1);
        });
    }

    private void masked() {
        String pays = "If it is masked, it pays a ribbon to the chest, if it has one, and goes in; nothing is cut.";
        e.of(OPENING, pays, x -> {
            x.come(0, 40, 4);
            x.mask(0);
            e.due("with one ribbon", enter(x, 0, 0), 0);
            e.row("it pays that one", numbers(x, 0), 0, 0, 0, 40, 0, 40, 2, 1, NONE, NONE, NONE);
            e.row("purses, chest and debts", counts(x, 4, 6), 0, 4, 0);
            e.row("not fined", counts(x, 11, 12), 0, 0);
        });
        e.of(OPENING, pays, x -> {
            x.come(0, 2, 5);
            x.mask(0);
            e.due("also with lace that the law allows", enter(x, 0, 0), 0);
            e.row("it pays one of two", counts(x, 4, 5), 1, 4);
        });
        e.of(OPENING, pays, x -> {
            x.come(0, 40, 9);
            x.come(0, 0, 5);
            x.mask(1);
            x.lend(0, 1);
            e.due("in a coat that was lent", enter(x, 1, 0), 0);
            e.row("the one who lent it pays nothing", counts(x, 4, 6), 10, 4, 0);
            e.due("it is not cut", x.guest(0, 3), 40);
        });
        String without = "(Without a ribbon it is judged as one who is not masked.)";
        e.of(OPENING, without, x -> {
            x.come(0, 3, 3);
            x.mask(0);
            e.due("an ell too much", enter(x, 0, 0), 1);
            e.row("fined", numbers(x, 0), 0, 0, 2, 2, 0, 2, 2, 1, NONE, NONE, NONE);
            e.row("fined so far, ells", counts(x, 11, 12), 1, 1);
        });
        e.of(OPENING, without, x -> {
            x.come(0, 2, 3);
            x.mask(0);
            e.due("as the law allows", enter(x, 0, 0), 0);
            e.row("not fined", numbers(x, 0), 0, 0, 0, 2, 0, 2, 2, 1, NONE, NONE, NONE);
        });
    }

    private void asTheLawAllows() {
        String law = "Otherwise, if the lace of the coat that it wears is at most what the law allows for its rank, "
            + "it goes in.";
        e.of(OPENING, law, x -> {
            x.set(5, 99);
            for (int rank = 0; rank <= 4; rank++) {
                x.come(rank, 2 + 4 * rank, 9);
                x.come(rank, 3 + 4 * rank, 9);
            }
            for (int guest = 0; guest < 10; guest++) {
                int ells = guest % 2;
                e.due("the lace of rank " + guest / 2 + ", and " + ells, enter(x, guest, 0), ells);
                e.due("its purse", x.guest(guest, 1), 9 - 2 * ells);
            }
            e.due("fined so far", x.count(11), 5);
            e.due("all are inside", x.count(14), 1023);
        });
        e.of(OPENING, law, x -> {
            x.come(4, 2, 9);
            x.come(0, 40, 9);
            x.lend(0, 1);
            e.due("the coat that it wears, not its own", enter(x, 1, 0), 0);
            e.due("its purse", x.guest(1, 1), 9);
        });
        e.of(OPENING, law, x -> {
            x.come(4, 18, 0);
            x.come(0, 0, 99);
            x.lend(0, 1);
            e.due("its own rank, not that of the one who lent it", enter(x, 1, 0), 16);
        });
    }

    private void fines() {
        String fine = "Otherwise it is fined: setting 3 ribbons for each ell that is too much.";
        e.of(OPENING, fine, x -> {
            x.come(0, 3, 99);
            x.come(0, 3, 99);
            x.come(0, 40, 0);
            x.set(3, 1);
            enter(x, 0, 0);
            e.due("one ell, the lowest fine", x.guest(0, 1), 98);
            x.set(3, 9);
            enter(x, 1, 0);
            e.due("one ell, the highest fine", x.guest(1, 1), 90);
            x.set(0, 0);
            enter(x, 2, 0);
            e.due("all ells, the highest fine", x.guest(2, 2), 360);
        });
        String pays = "It pays what it has in its purse to the chest; what is left is its debt;";
        int[] purse = {0, 1, 5, 6, 7};
        for (int ribbons : purse) {
            e.of(OPENING, pays, x -> {
                x.come(0, 5, ribbons);
                enter(x, 0, 0);
                int paid = ribbons < 6 ? ribbons : 6;
                e.row("a fine of 6 from " + ribbons, counts(x, 4, 6), ribbons - paid, paid, 6 - paid);
            });
        }
        e.of(OPENING, pays, x -> {
            x.come(0, 7, 0);
            enter(x, 0, 0);
            x.night();
            e.due("the debt of the one night", x.guest(0, 2), 10);
            x.earn(0, 1);
            e.due("cut at the other gate", enter(x, 0, 1), 2);
            e.due("and what is left of the next fine", x.guest(0, 2), 13);
        });
    }

    private void finesOfLenders() {
        String half = "if the coat was lent, the one who lent it pays half of what is left of this fine (rounded "
            + "down), as far as its purse goes, and the debt is so much less.";
        int[] left = {0, 1, 2, 3, 4, 10};
        for (int ribbons : left) {
            e.of(OPENING, half, x -> {
                x.come(0, 12, 50);
                x.come(0, 0, 10 - ribbons);
                x.set(3, 1);
                x.lend(0, 1);
                enter(x, 1, 0);
                e.due(ribbons + " are left: the purse of the one who lent it", x.guest(0, 1), 50 - ribbons / 2);
                e.due(ribbons + " are left: the debt", x.guest(1, 2), ribbons - ribbons / 2);
                e.due("the chest", x.count(5), 10 - ribbons + ribbons / 2);
                e.due("the debts of the one who lent it", x.guest(0, 2), 0);
            });
        }
        int[] purse = {0, 1, 4, 5, 6};
        for (int ribbons : purse) {
            e.of(OPENING, half, x -> {
                x.come(0, 12, ribbons);
                x.come(0, 0, 0);
                x.set(3, 1);
                x.lend(0, 1);
                enter(x, 1, 0);
                int paid = ribbons < 5 ? ribbons : 5;
                e.due("half is 5, its purse " + ribbons, x.guest(0, 1), ribbons - paid);
                e.due("the debt", x.guest(1, 2), 10 - paid);
                e.due("the chest", x.count(5), paid);
            });
        }
        e.of(OPENING, half, x -> {
            x.come(0, 4, 50);
            x.come(0, 7, 0);
            enter(x, 1, 0);
            x.night();
            x.lend(0, 1);
            e.due("an earlier debt", x.guest(1, 2), 10);
            enter(x, 1, 0);
            e.due("half of this fine alone", x.guest(0, 1), 48);
            e.due("the debts then", x.guest(1, 2), 12);
        });
        e.of(OPENING, half, x -> {
            x.come(0, 12, 0);
            x.come(0, 3, 50);
            x.lend(1, 0);
            x.night();
            x.giveBack(0);
            enter(x, 0, 0);
            e.due("in the own coat nobody else pays", x.guest(1, 1), 50);
            e.due("the debt is whole", x.guest(0, 2), 20);
        });
    }

    private void laceThatIsCut() {
        e.of(OPENING, "The lace that is too much is cut off, and comes to the chest of lace; then it goes in.", x -> {
            x.come(0, 20, 9);
            x.come(1, 9, 9);
            x.lend(0, 1);
            e.due("cut off", enter(x, 1, 0), 14);
            e.due("of the coat that it wears", x.guest(0, 3), 6);
            e.due("not of its own", x.guest(1, 3), 9);
            e.row("lace of coats, its chest, both", counts(x, 8, 10), 15, 14, 29);
            e.row("ells so far, inside", new int[] {x.count(12), x.count(14)}, 14, 2);
            e.due("cut off", enter(x, 0, 0), 0);
        });
        String beyond = "So no lace goes in that is beyond its rank, but under a mask.";
        for (int rank = 0; rank <= 4; rank++) {
            for (int gate = 0; gate < 3; gate++) {
                int itsRank = rank;
                int itsGate = gate;
                e.of(OPENING, beyond, x -> {
                    x.night();
                    for (int lace = 0; lace <= 40; lace++) {
                        int law = x.law(itsGate, itsRank, 1);
                        x.come(itsRank, lace, 0);
                        enter(x, 0, itsGate);
                        e.due("lace " + lace + " at gate " + itsGate, x.guest(0, 5), lace < law ? lace : law);
                        x.undo();
                        x.undo();
                        x.undo();
                    }
                });
            }
        }
        e.of(OPENING, beyond, x -> {
            x.come(0, 40, 4);
            x.mask(0);
            enter(x, 0, 1);
            e.due("under a mask", x.guest(0, 5), 40);
        });
    }

    private void nights() {
        String ends = "When a night ends, all go out, all lines are empty, each mask is good for one night less, at "
            + "least 0, and the night is 1 more (from 0 on).";
        e.of(NIGHTS, ends, x -> {
            come(x, 10);
            for (int i = 0; i < 10; i++) {
                enter(x, i, i % 3);
            }
            e.due("how many were inside", x.night(), 10);
            e.row("inside, in lines", counts(x, 2, 3), 0, 0);
            e.due("the guests inside", x.count(14), 0);
            for (int i = 0; i < 10; i++) {
                e.due("one of them", x.guest(i, 7), 0);
            }
        });
        e.of(NIGHTS, ends, x -> {
            come(x, 10);
            for (int i = 0; i < 10; i++) {
                x.queue(i, i % 3);
            }
            e.due("nobody was inside", x.night(), 0);
            for (int gate = 0; gate < 3; gate++) {
                e.due("line " + gate, x.line(gate), 0);
            }
            for (int i = 0; i < 10; i++) {
                e.row("in no line", new int[] {x.guest(i, 8), x.guest(i, 9)}, NONE, NONE);
            }
            e.due("a line begins anew", x.queue(9, 0), 0);
        });
        e.of(NIGHTS, ends, x -> {
            x.come(0, 0, 9);
            x.come(0, 0, 9);
            x.mask(0);
            int[] good = {2, 1, 0, 0, 0};
            for (int night = 0; night < 5; night++) {
                e.due("the night", x.count(0), night);
                e.due("the mask in night " + night, x.guest(0, 6), good[night]);
                e.due("without a mask", x.guest(1, 6), 0);
                x.night();
            }
        });
    }

    private void masks() {
        String taken = "A mask is taken for setting 4 nights, for 3 ribbons to the chest;";
        for (int good : new int[] {1, 9}) {
            e.of(NIGHTS, taken, x -> {
                x.come(0, 0, 3);
                x.set(4, good);
                e.due("all of 3 ribbons", x.mask(0), 0);
                e.due("the chest", x.count(5), 3);
                for (int left = good; left > 0; left--) {
                    e.due("good for " + left, x.guest(0, 6), left);
                    e.due("masked", x.count(13), 1);
                    x.night();
                }
                e.due("it is off", x.count(13), 0);
                e.due("as it has no ribbons", x.whyNot(0, true), 9);
            });
        }
        String first = "it cannot be taken for the first of these reasons:";
        e.of(NIGHTS, first, x -> {
            x.come(0, 0, 3);
            x.mask(0);
            e.due("8 and 9", x.whyNot(0, true), 8);
            x.earn(0, 3);
            e.due("8 alone", x.whyNot(0, true), 8);
        });
        e.of(NIGHTS, "8: the guest is masked;", x -> {
            x.come(0, 0, 99);
            e.due("not yet", x.whyNot(0, true), 0);
            x.mask(0);
            e.due("for two nights", x.whyNot(0, true), 8);
            x.night();
            e.due("for one night", x.whyNot(0, true), 8);
            x.night();
            e.due("no more", x.whyNot(0, true), 0);
        });
        e.of(NIGHTS, "9: it has fewer than 3 ribbons.", x -> {
            for (int ribbons = 0; ribbons <= 4; ribbons++) {
                x.come(0, 0, ribbons);
                e.due(ribbons + " ribbons", x.whyNot(ribbons, true), ribbons < 3 ? 9 : 0);
            }
        });
    }

    private void paying() {
        String pays = "By pay() a debt is paid to the chest as far as the purse goes (nights do not do so).";
        int[] purse = {0, 1, 5, 6, 7};
        for (int ribbons : purse) {
            e.of(NIGHTS, pays, x -> {
                x.come(0, 5, 0);
                enter(x, 0, 0);
                if (ribbons > 0) {
                    x.earn(0, ribbons);
                }
                int paid = ribbons < 6 ? ribbons : 6;
                e.due("what is left of 6 by " + ribbons, x.pay(0), 6 - paid);
                e.row("purses, chest and debts", counts(x, 4, 6), ribbons - paid, paid, 6 - paid);
            });
        }
        e.of(NIGHTS, pays, x -> {
            x.come(0, 5, 0);
            enter(x, 0, 0);
            x.earn(0, 9);
            x.night();
            e.row("nights do not do so", counts(x, 4, 6), 9, 0, 6);
        });
    }

    private void accounts() {
        e.of(ACCOUNTS, "All ribbons are in purses and the chest; debts are told apart.", x -> {
            x.come(0, 20, 9);
            enter(x, 0, 0);
            e.row("purses, chest, debts, what came", counts(x, 4, 7), 0, 9, 27, 9);
        });
        String came = "What came with guests, and was earned, is the same, as nothing leaves but with a guest who "
            + "goes.";
        e.of(ACCOUNTS, came, x -> {
            e.due("nothing", x.count(7), 0);
            x.come(0, 0, 99);
            x.come(0, 0, 0);
            e.due("what came", x.count(7), 99);
            x.earn(1, 99);
            e.due("what was earned", x.count(7), 198);
            x.mask(0);
            e.due("what is in the chest is there still", x.count(7), 198);
            x.leave(0);
            e.row("less what went: purses, chest, debts, what came", counts(x, 4, 7), 99, 3, 0, 102);
            x.leave(0);
            e.row("only the chest is left", counts(x, 4, 7), 0, 3, 0, 3);
        });
        String lace = "The lace of all coats, and that of the chest of lace, together, is what came with guests, less "
            + "what went with them.";
        e.of(ACCOUNTS, lace, x -> {
            e.row("nothing", counts(x, 8, 10), 0, 0, 0);
            x.come(0, 40, 0);
            x.come(0, 0, 0);
            e.row("what came", counts(x, 8, 10), 40, 0, 40);
            enter(x, 0, 0);
            e.row("what was cut is there still", counts(x, 8, 10), 2, 38, 40);
            x.night();
            x.leave(0);
            e.row("less what went", counts(x, 8, 10), 0, 38, 38);
            x.leave(0);
            e.row("only the chest is left", counts(x, 8, 10), 0, 38, 38);
        });
        e.of(ACCOUNTS, "Each of both sums is told in these two ways; they agree.", x -> {
            String[] texts = {"m1;q0>0;q1>1;l2>3;q3>2;o0;o1;o2", "^;q0>1;$0;q2>2;o1;o2", "^;^;m4;l4>1;q1>1;o1;$1;$3"};
            for (int i = 0; i < 5; i++) {
                x.come(i, 40 - i, 7 * i);
            }
            for (String text : texts) {
                revel(x, text);
                x.earn(3, 99);
                e.due("ribbons", x.count(4) + x.count(5), x.count(7));
                e.due("lace", x.count(8) + x.count(9), x.count(10));
            }
        });
    }
}
