/** For each promise of the document: ordinary calls, the edges that it names, and wrong arguments. */
final class PromiseTest extends Runs {
    private static final Check C = new Check("PromiseTest");

    private static void row(String what, int[] got, int... want) {
        C.due(what, java.util.Arrays.toString(got), java.util.Arrays.toString(want));
    }

    private static void promise1NewObject() {
        LaceRanks x = new LaceRanks();
        row("1: counts", counts(x, 0, 21), 0, 0, 0, 0, 0, 0, 0, 0, 0, 0, 0, 0, 0, 0, 0, 2, 4, 3, 2, 2, 10, 0);
        C.due("1: no snapshot", x::restore, "throws.IllegalStateException");
        C.due("1: nothing to undo", x::undo, "throws.IllegalStateException");
        C.due("1: empty buffer", x.clearBuffer(), 0);
        C.due("1: no stop", x.stopped(0), LaceRanks.NONE);
        C.due("1: no stop", x.stopped(1), LaceRanks.NONE);
        C.due("1: NONE", LaceRanks.NONE, -1);
    }

    private static void promise2Come() {
        LaceRanks x = new LaceRanks();
        C.due("2: the first", x.come(0, 0, 0), 0);
        C.due("2: the most", x.come(4, 40, 99), 1);
        row("2: its numbers", numbers(x, 1), 4, 99, 0, 40, 1, 40, 0, 0, -1, -1, -1);
        C.due("2: undoable", x.count(21), 2);
        int[][] wrong = {{-1, 0, 0}, {5, 0, 0}, {0, -1, 0}, {0, 41, 0}, {0, 0, -1}, {0, 0, 100}};
        for (int[] w : wrong) {
            C.noArgument("2: out of range", x, () -> x.come(w[0], w[1], w[2]));
        }
        C.noArgument("2: far out of range", x, () -> x.come(Integer.MIN_VALUE, Integer.MAX_VALUE, 0));
        for (int i = 2; i < 10; i++) {
            C.due("2: its number", x.come(1, i, i), i);
        }
        C.noState("2: there are 10", x, () -> x.come(0, 0, 0));
        C.noArgument("2: the first in the throws clause", x, () -> x.come(0, 41, 0));
        x.undo();
        C.due("2: undone", x.count(1), 9);
        C.due("2: it comes anew", x.come(3, 7, 1), 9);
    }

    private static void promise3Leave() {
        LaceRanks x = new LaceRanks();
        x.come(0, 40, 5);
        x.come(1, 11, 6);
        x.come(2, 12, 7);
        x.come(3, 13, 8);
        C.noIndex("3: no such guest", x, () -> x.leave(4));
        C.noIndex("3: no such guest", x, () -> x.leave(-1));
        x.lend(2, 1);
        C.noState("3: it lent its coat", x, () -> x.leave(2));
        C.noState("3: it wears one that was lent", x, () -> x.leave(1));
        x.queue(3, 1);
        C.noState("3: it stands in a line", x, () -> x.leave(3));
        x.queue(0, 0);
        x.open(0);
        C.noState("3: it is inside", x, () -> x.leave(0));
        x.night();
        x.queue(3, 1);
        x.queue(1, 1);
        row("3: before", counts(x, 4, 10), 21, 5, 71, 26, 38, 38, 76);
        C.due("3: the debts", x.leave(0), 71);
        row("3: behind", counts(x, 4, 10), 21, 5, 0, 26, 36, 38, 74);
        C.due("3: one less", x.count(1), 3);
        row("3: the borrower", numbers(x, 0), 1, 6, 0, 11, 1, 12, 0, 0, 1, 1, -1);
        row("3: the lender", numbers(x, 1), 2, 7, 0, 12, -1, 0, 0, 0, -1, -1, 0);
        row("3: the one in line", numbers(x, 2), 3, 8, 0, 13, 2, 13, 0, 0, 1, 0, -1);
        x.undo();
        C.due("3: undone", x.guest(0, 2), 71);
        C.due("3: undone", x.guest(3, 8), 1);
    }

    private static void promise3LeaveFromAmongOthers() {
        LaceRanks x = new LaceRanks();
        x.come(0, 1, 9);
        x.come(1, 2, 9);
        x.come(2, 3, 9);
        x.mask(1);
        x.queue(2, 0);
        x.leave(0);
        row("3: the masked one", numbers(x, 0), 1, 6, 0, 2, 0, 2, 2, 0, -1, -1, -1);
        row("3: the first in the line of gate 0", numbers(x, 1), 2, 9, 0, 3, 1, 3, 0, 0, 0, 0, -1);
        x.open(0);
        x.leave(0);
        row("3: the one inside", numbers(x, 0), 2, 9, 0, 3, 0, 3, 0, 1, -1, -1, -1);
        C.due("3: the one inside", x.count(14), 1);
        x.come(0, 1, 9);
        C.due("3: one who comes is outside", x.guest(1, 7), 0);

        LaceRanks y = new LaceRanks();
        y.come(0, 30, 2);
        y.queue(0, 0);
        y.open(0);
        y.night();
        y.earn(0, 3);
        y.mask(0);
        C.due("3: the debts", y.leave(0), 54);
        row("3: nobody", counts(y, 0, 14), 1, 0, 0, 0, 0, 5, 0, 5, 0, 28, 28, 1, 28, 0, 0);
        y.come(3, 4, 5);
        row("3: one who comes has nothing of one who left", numbers(y, 0), 3, 5, 0, 4, 0, 4, 0, 0, -1, -1, -1);
    }

    private static void promise4Earn() {
        LaceRanks x = withGuests(1);
        C.due("4: earn", x.earn(0, 1), 21);
        C.noIndex("4: no such guest", x, () -> x.earn(1, 1));
        C.noIndex("4: the first in the throws clause", x, () -> x.earn(-1, 0));
        C.noArgument("4: none", x, () -> x.earn(0, 0));
        C.noArgument("4: too many", x, () -> x.earn(0, 100));
        for (int i = 0; i < 9; i++) {
            x.earn(0, 99);
        }
        C.due("4: so far", x.guest(0, 1), 912);
        C.due("4: at most 999", x.earn(0, 99), 999);
        C.due("4: only what was earned is told", x.count(7), 999);
        C.due("4: nothing more", x.earn(0, 50), 999);
        C.due("4: told in both ways", x.count(7), x.count(4));
        C.due("4: undoable, at most 6", x.count(21), 6);
    }

    private static void promise5Lend() {
        LaceRanks x = withGuests(4);
        C.due("5: the lace", x.lend(0, 1), 10);
        row("5: the lender", numbers(x, 0), 0, 20, 0, 10, -1, 0, 0, 0, -1, -1, 1);
        row("5: the other", numbers(x, 1), 1, 20, 0, 10, 0, 10, 0, 0, -1, -1, -1);
        C.noState("5: the same", x, () -> x.lend(2, 2));
        C.noState("5: it lent the coat", x, () -> x.lend(0, 2));
        C.noState("5: it wears another one", x, () -> x.lend(1, 2));
        C.noState("5: the other one wears one that was lent", x, () -> x.lend(2, 1));
        C.due("5: to one without a coat", x.lend(2, 0), 10);
        C.due("5: a lender who wears another one", x.guest(0, 4), 2);
        C.noIndex("5: no such guest", x, () -> x.lend(4, 0));
        C.noIndex("5: no such guest", x, () -> x.lend(-1, 0));
        C.noIndex("5: no such other", x, () -> x.lend(0, 4));
        C.noIndex("5: no such other", x, () -> x.lend(0, -1));
        x.queue(3, 0);
        x.open(0);
        x.giveBack(0);
        C.noState("5: the other one is inside", x, () -> x.lend(2, 3));
        C.due("5: a lender who is inside may", x.lend(3, 2), 10);
        C.due("5: undone", x.undo(), 5);
        C.due("5: undone", x.guest(2, 4), 2);
    }

    private static void promise6GiveBack() {
        LaceRanks x = withGuests(4);
        C.noState("6: no coat was lent to it", x, () -> x.giveBack(0));
        C.noIndex("6: no such guest", x, () -> x.giveBack(4));
        C.noIndex("6: no such guest", x, () -> x.giveBack(-1));
        x.lend(0, 1);
        C.noState("6: the lender does not give back", x, () -> x.giveBack(0));
        C.due("6: the lender", x.giveBack(1), 0);
        C.due("6: both wear their own", x.guest(0, 4), 0);
        C.due("6: both wear their own", x.guest(1, 4), 1);
        C.due("6: not lent any more", x.guest(0, 10), -1);
        x.lend(0, 1);
        x.lend(2, 0);
        C.due("6: back to one who wears another one", x.giveBack(1), 0);
        C.due("6: it wears the other one", x.guest(0, 4), 2);
        C.due("6: its own is at home", x.guest(0, 10), -1);
        C.due("6: and wears the own one then", x.giveBack(0), 2);
        C.due("6: and wears the own one then", x.guest(0, 4), 0);
        x.lend(0, 1);
        x.lend(2, 0);
        C.due("6: one whose own is lent away", x.giveBack(0), 2);
        C.due("6: wears none then", x.guest(0, 4), -1);
        x.queue(1, 0);
        x.open(0);
        C.noState("6: it is inside", x, () -> x.giveBack(1));
        x.night();
        x.queue(0, 0);
        x.open(0);
        C.noState("6: the lender is inside", x, () -> x.giveBack(1));
        x.night();
        x.queue(0, 0);
        x.queue(1, 1);
        C.due("6: in lines it can", x.giveBack(1), 0);
        x.undo();
        C.due("6: undone", x.guest(1, 4), 0);
    }

    private static void promise7Mask() {
        LaceRanks x = new LaceRanks();
        x.come(0, 0, 6);
        x.come(0, 0, 2);
        C.due("7: its ribbons", x.mask(0), 3);
        C.due("7: the chest", x.count(5), 3);
        C.due("7: the nights", x.guest(0, 6), 2);
        C.noState("7: it is masked", x, () -> x.mask(0));
        C.noState("7: too few ribbons", x, () -> x.mask(1));
        C.noIndex("7: no such guest", x, () -> x.mask(2));
        C.noIndex("7: no such guest", x, () -> x.mask(-1));
        x.night();
        x.set(4, 9);
        C.due("7: a mask keeps its nights", x.guest(0, 6), 1);
        x.night();
        C.due("7: with 3 ribbons", x.mask(0), 0);
        C.due("7: for setting 4 nights", x.guest(0, 6), 9);
        x.undo();
        C.due("7: undone", x.guest(0, 1), 3);
        C.due("7: undone", x.count(13), 0);
    }

    private static void promise8Pay() {
        LaceRanks x = new LaceRanks();
        x.come(0, 12, 5);
        C.due("8: without debts", x.pay(0), 0);
        C.due("8: nothing is paid", x.guest(0, 1), 5);
        C.due("8: undoable, also if nothing changes", x.count(21), 2);
        x.queue(0, 0);
        x.open(0);
        C.due("8: the debts", x.guest(0, 2), 15);
        C.due("8: with nothing", x.pay(0), 15);
        x.earn(0, 10);
        C.due("8: as far as the purse goes", x.pay(0), 5);
        C.due("8: the chest", x.count(5), 15);
        x.earn(0, 7);
        C.due("8: all", x.pay(0), 0);
        C.due("8: the rest of the purse", x.guest(0, 1), 2);
        x.undo();
        C.due("8: undone", x.guest(0, 2), 5);
        C.noIndex("8: no such guest", x, () -> x.pay(1));
        C.noIndex("8: no such guest", x, () -> x.pay(-1));
    }

    private static void promise9Queue() {
        LaceRanks x = new LaceRanks();
        x.come(0, 8, 1);
        x.come(1, 0, 0);
        x.come(2, 0, 0);
        C.due("9: the first place", x.queue(1, 2), 0);
        C.due("9: the next place", x.queue(0, 2), 1);
        C.due("9: its gate", x.guest(0, 8), 2);
        C.noState("9: it stands in a line", x, () -> x.queue(1, 0));
        C.noIndex("9: no such gate", x, () -> x.queue(2, 3));
        C.noIndex("9: no such gate", x, () -> x.queue(2, -1));
        C.noIndex("9: no such guest", x, () -> x.queue(3, 0));
        C.noIndex("9: the first in the throws clause", x, () -> x.queue(1, 3));
        x.open(2);
        C.due("9: all go on", x.guest(0, 9), 0);
        C.noState("9: it is inside", x, () -> x.queue(1, 0));
        x.open(2);
        x.night();
        C.due("9: the debts", x.guest(0, 2), 11);
        C.noState("9: debts above setting 5", x, () -> x.queue(0, 0));
        x.set(5, 11);
        C.due("9: debts at setting 5", x.queue(0, 0), 0);
        x.undo();
        C.due("9: undone", x.line(0), 0);
    }

    private static void promise10Open() {
        LaceRanks x = new LaceRanks();
        C.noIndex("10: no such gate, ahead of the empty line", x, () -> x.open(3));
        C.noIndex("10: no such gate", x, () -> x.open(-1));
        C.noState("10: an empty line", x, () -> x.open(0));
        x.come(0, 10, 5);
        x.come(1, 20, 5);
        x.come(2, 30, 50);
        x.come(3, 14, 0);
        x.set(5, 99);
        x.queue(3, 0);
        C.due("10: as the law allows", x.open(0), 0);
        C.due("10: in", x.guest(3, 7), 1);
        C.due("10: not fined", x.count(11), 0);
        x.queue(0, 0);
        C.due("10: ells cut", x.open(0), 8);
        row("10: fined", numbers(x, 0), 0, 0, 11, 2, 0, 2, 0, 1, -1, -1, -1);
        row("10: accounts", counts(x, 4, 12), 55, 5, 11, 60, 66, 8, 74, 1, 8);
        x.lend(2, 1);
        x.queue(1, 1);
        x.queue(2, 1);
        // 30 ells, 4 allowed: a fine of 52, 5 paid, 47 left, 23 of them by the lender.
        C.due("10: a coat that was lent", x.open(1), 26);
        C.due("10: the debts", x.guest(1, 2), 24);
        C.due("10: the lender pays half", x.guest(2, 1), 27);
        C.due("10: the coat is cut", x.guest(2, 3), 4);
        C.due("10: its own one is not", x.guest(1, 3), 20);
        row("10: accounts", counts(x, 4, 12), 27, 33, 35, 60, 40, 34, 74, 2, 34);
        C.due("10: without a coat", x.open(1), 0);
        C.due("10: nothing is paid", x.guest(2, 1), 27);
        C.due("10: in", x.count(14), 15);
        x.undo();
        C.due("10: undone", x.guest(2, 9), 0);
        x.undo();
        C.due("10: undone", x.guest(2, 1), 50);
    }

    private static void promise10OpenLenderAndMasks() {
        LaceRanks x = new LaceRanks();
        x.come(0, 40, 3);
        x.come(0, 5, 1);
        x.set(3, 9);
        x.lend(0, 1);
        x.queue(1, 0);
        C.due("10: cut", x.open(0), 38);
        C.due("10: as far as the lender's purse goes", x.guest(0, 1), 0);
        C.due("10: the debts", x.guest(1, 2), 342 - 1 - 3);
        C.due("10: the chest", x.count(5), 4);

        LaceRanks y = new LaceRanks();
        y.come(0, 40, 5);
        y.come(0, 40, 3);
        y.come(0, 40, 4);
        y.mask(0);
        y.mask(1);
        y.mask(2);
        y.lend(2, 1);
        y.queue(0, 0);
        y.queue(1, 0);
        y.queue(2, 0);
        C.due("10: masked", y.open(0), 0);
        C.due("10: it pays a ribbon", y.guest(0, 1), 1);
        C.due("10: to the chest", y.count(5), 10);
        C.due("10: its lace stays", y.guest(0, 3), 40);
        C.due("10: masked without a ribbon", y.open(0), 38);
        C.due("10: the lender pays", y.guest(2, 1), 0);
        C.due("10: the debts", y.guest(1, 2), 75);
        y.night();
        y.earn(2, 5);
        y.queue(0, 1);
        C.due("10: masked for the last night", y.open(1), 0);
        C.due("10: it pays a ribbon", y.guest(0, 1), 0);
        y.queue(2, 1);
        C.due("10: masked without a coat", y.open(1), 0);
        C.due("10: pays nothing", y.guest(2, 1), 5);
        C.due("10: fined so far", y.count(11), 1);

        LaceRanks z = new LaceRanks();
        z.come(0, 3, 9);
        z.queue(0, 0);
        C.due("10: one ell", z.open(0), 1);
        row("10: one ell", counts(z, 4, 12), 7, 2, 0, 9, 2, 1, 3, 1, 1);
    }

    private static void promise11Night() {
        LaceRanks x = withGuests(3);
        x.mask(0);
        x.queue(0, 0);
        x.queue(1, 0);
        x.queue(2, 1);
        x.open(0);
        x.open(0);
        C.due("11: inside", x.night(), 2);
        row("11: behind it", counts(x, 0, 3), 1, 3, 0, 0);
        C.due("11: a night less", x.guest(0, 6), 1);
        C.due("11: at least 0", x.guest(1, 6), 0);
        C.due("11: nobody", x.night(), 0);
        C.due("11: the mask is off", x.count(13), 0);
        C.due("11: debts stay", x.count(6) >= 0 && x.guest(1, 2) == x.count(6) - x.guest(0, 2), true);
        x.undo();
        C.due("11: undone", x.count(0), 1);
        x.undo();
        row("11: undone", counts(x, 0, 3), 0, 3, 2, 1);
    }

    private static void promise12Set() {
        int[] first = {2, 4, 3, 2, 2, 10};
        int[] least = {0, 0, 0, 1, 1, 0};
        int[] most = {20, 10, 9, 9, 9, 99};
        for (int i = 0; i < 6; i++) {
            int setting = i;
            LaceRanks x = new LaceRanks();
            C.due("12: the first value", x.set(i, least[i]), first[i]);
            C.due("12: the least", x.set(i, most[i]), least[i]);
            C.due("12: the most", x.set(i, most[i]), most[i]);
            C.due("12: undoable", x.count(21), 3);
            C.noArgument("12: too little", x, () -> x.set(setting, least[setting] - 1));
            C.noArgument("12: too much", x, () -> x.set(setting, most[setting] + 1));
            C.noIndex("12: no such setting", x, () -> x.set(6, 0));
            C.noIndex("12: the first in the throws clause", x, () -> x.set(-1, -1));
            C.due("12: it stands", x.count(15 + i), most[i]);
            x.undo();
            x.undo();
            C.due("12: undone", x.count(15 + i), least[i]);
        }
    }

    private static void promise13Append() {
        LaceRanks x = new LaceRanks();
        C.noArgument("13: 32", x, () -> x.append(32));
        C.noArgument("13: 127", x, () -> x.append(127));
        C.noArgument("13: -1", x, () -> x.append(-1));
        C.due("13: 33", x.append(33), 1);
        C.due("13: 126", x.append(126), 2);
        for (int i = 3; i <= 60; i++) {
            C.due("13: the new length", x.append('a'), i);
        }
        C.noState("13: 60 characters", x, () -> x.append('a'));
        C.noArgument("13: the first in the throws clause", x, () -> x.append(32));
        C.due("13: not undoable", x.count(21), 0);
    }

    private static void promise14ClearBuffer() {
        LaceRanks x = new LaceRanks();
        C.due("14: empty", x.clearBuffer(), 0);
        type(x, "q0>");
        C.due("14: the length that it had", x.clearBuffer(), 3);
        C.due("14: it is empty", x.clearBuffer(), 0);
        C.due("14: not undoable", x.count(21), 0);
        type(x, "^");
        C.due("14: from the start", x.revel(), 1);
    }

    private static void promise15FirstError() {
        String[] right = {
            "", "q0>2", "q9>0;", "o2", "o0*", "o0*1", "o0*10", "o0*9;", "o0*1;o1", "m9", "l0>9", "l9>9;$0;^", "$9",
            "^;^;^", "^;", "q", "q3", "q3>", "o", "l", "l4", "l4>", "m", "$"};
        for (String text : right) {
            C.due("15: " + text, firstError(text), text.length());
        }
        String[] wrong = {
            "x", ";", "Q", "0", "*", "q>", "q0;", "q0>3", "q0>9", "q00", "q0>00", "o3", "o;*", "o0>", "o0*0", "o0*11",
            "o0*100", "o0*20", "o0**", "o0*;", "m;", "m00", "l0>;", "l00", "l0>00", "l0>1>", "l;", "$$", "$;", "$01",
            "^^", "^;;", "^0", "o00", "o0*1*", "q0*"};
        int[] at = {
            0, 0, 0, 0, 0, 1, 2, 3, 3, 2, 4, 1, 1, 2, 3, 4, 5, 4, 3, 3, 1, 2, 3, 2, 4, 4, 1, 1, 1, 2, 1, 2, 1, 2, 4, 2};
        for (int i = 0; i < wrong.length; i++) {
            C.due("15: " + wrong[i], firstError(wrong[i]), at[i]);
            C.due("15: the first one of " + wrong[i] + "~~", firstError(wrong[i] + "~~"), at[i]);
        }
    }

    private static void promise16Revel() {
        LaceRanks x = withGuests(3);
        String[] wrong = {"", ";", "^;", "q0", "q0>", "o", "o0*", "m", "l0>", "$", "q0>0;x", "^^"};
        for (String text : wrong) {
            x.clearBuffer();
            type(x, text);
            C.noArgument("16: not complete: " + text, x, x::revel);
            C.due("16: the buffer stays", x.clearBuffer(), text.length());
        }
        x.clearBuffer();
        C.due("16: all", revel(x, "m0;q0>0;q1>0;l2>1;o0*10;$1;o1;^"), 8);
        C.due("16: it clears the buffer", x.clearBuffer(), 0);
        C.due("16: one call to undo", x.count(21), 4);
        row("16: what happened", numbers(x, 1), 1, 12, 0, 10, 2, 6, 0, 0, -1, -1, -1);
        C.due("16: the mask", x.guest(0, 1), 16);
        C.due("16: no stop", x.stopped(0), -1);
        x.undo();
        row("16: undone as one", counts(x, 0, 6), 0, 3, 0, 0, 60, 0, 0);
        C.due("16: nothing happens", revel(x, "l0>0"), 0);
        C.due("16: undoable all the same", x.count(21), 4);
        C.due("16: up to the first", revel(x, "q0>0;q0>1;^"), 1);
        C.due("16: what happened stays", x.line(0), 1);
        C.due("16: not what is behind it", x.count(0), 0);
        C.due("16: opened once", revel(x, "q1>0;q2>0;o0"), 3);
        C.due("16: opened once", x.line(0), 2);
        C.due("16: opened twice", revel(x, "o0*2"), 1);
        C.due("16: opened twice", x.line(0), 0);
        C.due("16: an empty line", revel(x, "o0;o1*10;o2"), 3);
        C.due("16: a night", revel(x, "^"), 1);
        C.due("16: the debts", x.guest(0, 2), 0);
        LaceRanks z = new LaceRanks();
        z.come(0, 9, 4);
        C.due("16: a fine", revel(z, "q0>0;o0"), 2);
        z.earn(0, 7);
        C.due("16: paying", revel(z, "$0"), 1);
        row("16: paid", numbers(z, 0), 0, 0, 3, 2, 0, 2, 0, 1, -1, -1, -1);
        LaceRanks y = withGuests(10);
        C.due("16: all in line", revel(y, "q0>0;q1>0;q2>0;q3>0;q4>0;q5>0;q6>0;q7>0;q8>0;q9>0"), 10);
        revel(y, "o0*9");
        C.due("16: nine times", y.count(2), 9);
        y.undo();
        revel(y, "o0*1");
        C.due("16: one time", y.count(2), 1);
        y.undo();
        revel(y, "o0*10");
        C.due("16: ten times", y.count(2), 10);
    }

    private static void promise17Stopped() {
        String[] text = {
            "^;l0>0", "l0>1;l0>2", "l0>1;^;l2>1", "q0>0;o0;q0>1", "q0>0;q0>0", "m0;m0", "m3", "q4>0", "m4", "l0>4",
            "l4>4", "l4>0", "^;^;$4", "q0>0;o0;l1>0", "q2>0;o0;^;q2>0"};
        int[] part = {1, 1, 2, 2, 1, 1, 0, 0, 0, 0, 0, 0, 2, 2, 3};
        int[] reason = {1, 2, 3, 5, 6, 8, 9, 10, 10, 10, 10, 10, 10, 3, 7};
        for (int i = 0; i < text.length; i++) {
            LaceRanks x = new LaceRanks();
            x.come(0, 0, 9);
            x.come(0, 0, 9);
            x.come(0, 20, 1);
            x.come(0, 0, 2);
            C.due("17: parts of " + text[i], revel(x, text[i]), part[i]);
            C.due("17: the part of " + text[i], x.stopped(0), part[i]);
            C.due("17: the reason of " + text[i], x.stopped(1), reason[i]);
            C.noArgument("17: 2", x, () -> x.stopped(2));
            C.noArgument("17: -1", x, () -> x.stopped(-1));
            revel(x, "^;$0");
            C.due("17: none, if all happens", x.stopped(0), -1);
            C.due("17: none, if all happens", x.stopped(1), -1);
            x.undo();
            C.due("17: undone", x.stopped(1), reason[i]);
            x.night();
            C.due("17: other calls leave it", x.stopped(0), part[i]);
            x.keep();
            revel(x, "^");
            x.restore();
            C.due("17: restored", x.stopped(1), reason[i]);
        }
    }

    private static void promise18Undo() {
        LaceRanks x = new LaceRanks();
        C.noState("18: none", x, x::undo);
        for (int i = 0; i < 8; i++) {
            x.night();
        }
        C.due("18: at most 6", x.count(21), 6);
        type(x, "^;");
        x.keep();
        for (int left = 5; left >= 0; left--) {
            C.due("18: how many are left", x.undo(), left);
            C.due("18: the night", x.count(0), left + 2);
        }
        C.noState("18: no more", x, x::undo);
        C.due("18: the buffer is not undone", x.clearBuffer(), 2);
        C.due("18: the snapshot is not undone", x.restore(), 8);
        C.due("18: restore is undoable", x.undo(), 0);
        C.due("18: the night", x.count(0), 2);
        x.night();
        x.night();
        x.undo();
        x.come(0, 1, 2);
        x.undo();
        C.due("18: others behind it", x.count(0), 3);
        C.due("18: others behind it", x.count(1), 0);
    }

    /** Something of each kind happens ahead of it, with at most 5 saved states. */
    private static LaceRanks busy() {
        LaceRanks x = new LaceRanks();
        x.come(0, 20, 9);
        x.come(1, 30, 40);
        x.come(2, 9, 50);
        x.come(3, 40, 0);
        type(x, "^;m2;q0>0;l1>0;q3>1;o0;l2>2");
        x.revel();
        x.keep();
        return x;
    }

    private static void promise18AllIsUndone() {
        for (int i = 0; i < 12; i++) {
            LaceRanks x = busy();
            type(x, i == 10 ? "o1;^;q3>0;$0;q3>0;m1" : "m");
            int kind = i;
            String buffer = i == 10 ? "o1;^;q3>0;$0;q3>0;m1" : "";
            long before = x.digest();
            switch (kind) {
                case 0: x.come(1, 2, 3); break;
                case 1: x.leave(2); break;
                case 2: x.earn(3, 9); break;
                case 3: x.lend(3, 2); break;
                case 4: x.set(5, 99); break;
                case 5: x.mask(1); break;
                case 6: x.pay(0); break;
                case 7: x.queue(2, 1); break;
                case 8: x.open(1); break;
                case 9: x.night(); break;
                case 10: x.revel(); break;
                default: x.restore(); break;
            }
            C.due("18: saved by call " + kind, x.count(21), 6);
            C.due("18: undo of call " + kind, x.undo(), 5);
            type(x, buffer);
            C.due("18: all as before call " + kind, x.digest(), before);
        }
        LaceRanks x = busy();
        x.night();
        x.giveBack(0);
        C.due("18: giveBack", x.guest(0, 4), 0);
        x.undo();
        C.due("18: giveBack undone", x.guest(0, 4), 1);
        C.due("18: giveBack saved", x.count(0), 2);
    }

    private static void promise19Keep() {
        LaceRanks x = withGuests(2);
        C.due("19: the night", x.keep(), 0);
        C.due("19: not undoable", x.count(21), 2);
        x.night();
        x.come(0, 1, 2);
        C.due("19: the night", x.keep(), 1);
        x.night();
        x.restore();
        C.due("19: in place of the one before", x.count(1), 3);
    }

    private static void promise20Restore() {
        LaceRanks x = withGuests(3);
        C.noState("20: no snapshot", x, x::restore);
        x.set(0, 7);
        x.mask(0);
        x.lend(1, 0);
        x.queue(0, 1);
        x.queue(2, 2);
        x.open(2);
        x.night();
        x.queue(2, 2);
        long due = x.digest();
        x.keep();
        x.giveBack(0);
        x.leave(1);
        x.night();
        x.set(0, 1);
        x.set(0, 2);
        type(x, "m");
        C.due("20: the night then", x.restore(), 1);
        C.due("20: undoable", x.count(21), 6);
        x.clearBuffer();
        C.due("20: the same", x.digest(), due);
        C.due("20: undone", x.undo(), 5);
        C.due("20: undone", x.count(1), 2);
        x.restore();
        C.due("20: the snapshot stays", x.digest(), due);
    }

    private static void promise21Guest() {
        LaceRanks x = new LaceRanks();
        x.come(4, 30, 40);
        x.come(3, 25, 9);
        x.come(1, 6, 8);
        x.mask(1);
        x.lend(0, 1);
        x.queue(2, 2);
        x.queue(1, 2);
        row("21: without a coat", numbers(x, 0), 4, 40, 0, 30, -1, 0, 0, 0, -1, -1, 1);
        row("21: with a coat that was lent", numbers(x, 1), 3, 6, 0, 25, 0, 30, 2, 0, 2, 1, -1);
        row("21: with its own", numbers(x, 2), 1, 8, 0, 6, 2, 6, 0, 0, 2, 0, -1);
        x.open(2);
        row("21: inside", numbers(x, 2), 1, 8, 0, 6, 2, 6, 0, 1, -1, -1, -1);
        C.noArgument("21: 11", x, () -> x.guest(0, 11));
        C.noArgument("21: -1", x, () -> x.guest(0, -1));
        C.noIndex("21: no such guest", x, () -> x.guest(3, 0));
        C.noIndex("21: the first in the throws clause", x, () -> x.guest(-1, 11));
    }

    private static void promise22Law() {
        LaceRanks x = new LaceRanks();
        C.due("22: gate 0", x.law(0, 3, 2), 14);
        C.due("22: gate 1", x.law(1, 3, 2), 12);
        C.due("22: gate 2, night 0", x.law(2, 3, 0), 14);
        C.due("22: gate 2, night 1", x.law(2, 3, 1), 17);
        C.due("22: gate 2, night 2", x.law(2, 3, 2), 20);
        C.due("22: gate 2, night 3", x.law(2, 3, 3), 14);
        C.due("22: the last night", x.law(2, 0, Integer.MAX_VALUE), 5);
        x.set(0, 1);
        C.due("22: at least 0", x.law(1, 0, 0), 0);
        x.set(1, 0);
        C.due("22: without rank", x.law(0, 4, 0), 1);
        C.due("22: at least 0", x.law(1, 4, 1), 0);
        x.set(0, 20);
        x.set(1, 10);
        x.set(2, 9);
        C.due("22: the most", x.law(2, 4, 2), 78);
        C.noIndex("22: no such gate", x, () -> x.law(3, 0, 0));
        C.noIndex("22: the first in the throws clause", x, () -> x.law(-1, 9, -1));
        C.noArgument("22: rank", x, () -> x.law(0, 5, 0));
        C.noArgument("22: rank", x, () -> x.law(0, -1, 0));
        C.noArgument("22: night", x, () -> x.law(0, 0, -1));
    }

    private static void promise23Count() {
        LaceRanks x = new LaceRanks();
        x.come(0, 10, 3);
        x.come(1, 20, 30);
        x.come(2, 9, 40);
        x.come(2, 8, 7);
        x.mask(1);
        x.earn(0, 2);
        x.queue(0, 0);
        x.queue(1, 0);
        x.queue(2, 1);
        x.open(0);
        x.open(0);
        x.leave(3);
        row("23: counts", counts(x, 0, 21),
            0, 3, 2, 1, 66, 9, 11, 75, 31, 8, 39, 1, 8, 1, 3, 2, 4, 3, 2, 2, 10, 6);
        x.night();
        row("23: counts", counts(x, 0, 3), 1, 3, 0, 0);
        C.noArgument("23: 22", x, () -> x.count(22));
        C.noArgument("23: -1", x, () -> x.count(-1));
        LaceRanks y = withGuests(10);
        y.queue(9, 0);
        y.queue(4, 0);
        y.open(0);
        y.open(0);
        C.due("23: the guests inside", y.count(14), 512 + 16);
        y.mask(0);
        y.mask(9);
        C.due("23: masked", y.count(13), 2);
        y.night();
        y.mask(5);
        C.due("23: masked for one night, or for two", y.count(13), 3);
    }

    private static void promise24Line() {
        LaceRanks x = withGuests(10);
        for (int i = 0; i < 10; i++) {
            C.due("24: empty yet", x.line(2), i);
            x.queue(i, 2);
        }
        C.due("24: all", x.line(2), 10);
        C.due("24: none", x.line(1), 0);
        x.open(2);
        C.due("24: one less", x.line(2), 9);
        x.night();
        C.due("24: none", x.line(2), 0);
        C.noIndex("24: no such gate", x, () -> x.line(3));
        C.noIndex("24: no such gate", x, () -> x.line(-1));
    }

    private static void promise25NoLoan() {
        LaceRanks x = withGuests(5);
        x.lend(0, 1);
        C.due("25: it can", x.noLoan(2, 0), 0);
        C.due("25: it can", x.noLoan(2, 3), 0);
        C.due("25: the same, ahead of all", x.noLoan(0, 0), 1);
        C.due("25: it lent it", x.noLoan(0, 2), 2);
        C.due("25: it wears another one, ahead of the other one", x.noLoan(1, 1), 1);
        C.due("25: it wears another one", x.noLoan(1, 2), 2);
        C.due("25: the first that applies", x.noLoan(0, 1), 2);
        C.due("25: the other one wears another one", x.noLoan(2, 1), 3);
        x.queue(3, 0);
        C.due("25: one in line can", x.noLoan(2, 3), 0);
        x.open(0);
        C.due("25: the other one is inside", x.noLoan(2, 3), 3);
        C.due("25: one who is inside can", x.noLoan(3, 2), 0);
        C.noIndex("25: no such guest", x, () -> x.noLoan(5, 0));
        C.noIndex("25: no such other", x, () -> x.noLoan(0, 5));
        C.noIndex("25: no such guest", x, () -> x.noLoan(-1, -1));
    }

    private static void promise26WhyNot() {
        LaceRanks x = new LaceRanks();
        x.come(0, 20, 3);
        x.come(0, 0, 2);
        C.due("26: a line", x.whyNot(0, false), 0);
        C.due("26: a mask", x.whyNot(0, true), 0);
        C.due("26: too few ribbons", x.whyNot(1, true), 9);
        x.queue(0, 0);
        C.due("26: in a line", x.whyNot(0, false), 6);
        x.open(0);
        C.due("26: inside, ahead of the debts", x.whyNot(0, false), 5);
        x.night();
        C.due("26: debts", x.whyNot(0, false), 7);
        x.earn(0, 3);
        x.mask(0);
        C.due("26: masked, ahead of the ribbons", x.whyNot(0, true), 8);
        x.night();
        C.due("26: masked for one night", x.whyNot(0, true), 8);
        x.set(5, 50);
        C.due("26: debts that do not bar", x.whyNot(0, false), 0);
        x.queue(0, 0);
        x.set(5, 0);
        C.due("26: in a line, ahead of the debts", x.whyNot(0, false), 6);
        C.noIndex("26: no such guest", x, () -> x.whyNot(2, true));
        C.noIndex("26: no such guest", x, () -> x.whyNot(-1, false));
    }

    private static void promise27IfOpened() {
        LaceRanks x = new LaceRanks();
        x.come(1, 20, 10);
        x.come(0, 9, 7);
        x.come(0, 30, 4);
        row("27: gate 0", brought(x, 0, 0), 14, 28, 10, 18);
        row("27: gate 1", brought(x, 0, 1), 16, 32, 10, 22);
        x.night();
        row("27: gate 2", brought(x, 0, 2), 11, 22, 10, 12);
        x.lend(0, 1);
        row("27: without a coat", brought(x, 0, 0), 0, 0, 0, 0);
        row("27: a coat that was lent", brought(x, 1, 0), 18, 36, 7, 29 - 10);
        x.mask(2);
        row("27: masked", brought(x, 2, 0), 0, 0, 1, 0);
        x.queue(2, 0);
        x.open(0);
        row("27: masked without a ribbon, inside", brought(x, 2, 0), 28, 56, 0, 56);
        x.queue(1, 0);
        x.open(0);
        row("27: with debts, as the law allows", brought(x, 1, 0), 0, 0, 0, 19);
        row("27: with debts, beyond the law", brought(x, 1, 1), 2, 4, 0, 23);
        C.noIndex("27: no such guest", x, () -> x.ifOpened(3, 0, 0));
        C.noIndex("27: no such gate", x, () -> x.ifOpened(0, 3, 0));
        C.noIndex("27: the first in the throws clause", x, () -> x.ifOpened(0, -1, 4));
        C.noArgument("27: 4", x, () -> x.ifOpened(0, 0, 4));
        C.noArgument("27: -1", x, () -> x.ifOpened(0, 0, -1));
    }

    private static void promise28BestGate() {
        LaceRanks x = withGuests(5);
        x.come(0, 30, 30);
        C.due("28: of equal ones the lowest", x.bestGate(5), 0);
        x.queue(1, 0);
        C.due("28: the shorter line", x.bestGate(5), 2);
        x.queue(2, 2);
        C.due("28: as long ones", x.bestGate(5), 0);
        x.queue(3, 2);
        x.night();
        x.queue(2, 2);
        C.due("28: the fewest ells, whatever the line", x.bestGate(5), 2);
        x.set(2, 1);
        C.due("28: one ell less", x.bestGate(5), 2);
        x.mask(5);
        C.due("28: masked, by the lines", x.bestGate(5), 0);
        x.queue(0, 0);
        C.due("28: masked, by the lines", x.bestGate(5), 1);
        C.noIndex("28: no such guest", x, () -> x.bestGate(6));
        C.noIndex("28: no such guest", x, () -> x.bestGate(-1));
    }

    private static void promise29FreeIn() {
        LaceRanks x = new LaceRanks();
        x.come(0, 2, 50);
        x.come(0, 5, 50);
        x.come(0, 8, 50);
        x.come(0, 9, 50);
        int[] want = {0, 1, 2, -1};
        for (int i = 0; i < 4; i++) {
            C.due("29: gate 2", x.freeIn(i, 2), want[i]);
        }
        C.due("29: gate 0", x.freeIn(0, 0), 0);
        C.due("29: gate 0", x.freeIn(1, 0), -1);
        C.due("29: gate 1", x.freeIn(0, 1), -1);
        x.night();
        x.night();
        C.due("29: two nights on", x.freeIn(2, 2), 0);
        C.due("29: two nights on", x.freeIn(1, 2), 0);
        x.night();
        C.due("29: three nights on", x.freeIn(2, 2), 2);
        x.mask(3);
        C.due("29: masks do not matter", x.freeIn(3, 2), -1);
        x.lend(3, 0);
        C.due("29: the lace that it wears", x.freeIn(0, 2), -1);
        C.due("29: without a coat", x.freeIn(3, 1), 0);
        C.noIndex("29: no such guest", x, () -> x.freeIn(4, 0));
        C.noIndex("29: no such gate", x, () -> x.freeIn(0, 3));
        C.noIndex("29: no such gate", x, () -> x.freeIn(0, -1));
    }

    private static void promise30DecentShare() {
        LaceRanks x = new LaceRanks();
        C.due("30: without any", x.decentShare(), 1.0);
        x.come(0, 2, 9);
        C.due("30: all", x.decentShare(), 1.0);
        x.come(0, 3, 9);
        x.come(4, 18, 9);
        C.due("30: two of three", x.decentShare(), 2.0 / 3.0);
        x.mask(1);
        C.due("30: masks do not matter", x.decentShare(), 2.0 / 3.0);
        x.lend(1, 0);
        C.due("30: the lace that they wear", x.decentShare(), 2.0 / 3.0);
        x.lend(2, 1);
        C.due("30: a coat that was lent", x.decentShare(), 1.0 / 3.0);
        x.set(0, 0);
        x.set(1, 0);
        C.due("30: none but the one without a coat", x.decentShare(), 1.0 / 3.0);
        C.due("30: not undoable", x.count(21), 6);
        LaceRanks y = new LaceRanks();
        y.come(0, 40, 0);
        C.due("30: none", y.decentShare(), 0.0);
    }

    private static void promise31Digest() {
        LaceRanks x = new LaceRanks();
        C.due("31: a new object", x.digest(), digestOf(x, ""));
        for (int decent = 0; decent <= 10; decent++) {
            for (int all = 1; all <= 10; all++) {
                LaceRanks y = new LaceRanks();
                for (int i = 0; i < all; i++) {
                    y.come(0, i < decent ? 2 : 40, 7 * i);
                }
                C.due("31: the bits of each share", y.digest(), digestOf(y, ""));
            }
        }
        x.come(0, 20, 9);
        x.come(2, 30, 90);
        x.come(4, 40, 30);
        x.come(1, 8, 2);
        revel(x, "^;^;m1;l1>0;q3>2;q0>2;q2>1;o2;m0;m0");
        type(x, "q0>~");
        long due = digestOf(x, "q0>~");
        C.due("31: all that is told", x.digest(), due);
        C.due("31: nothing is changed", x.digest(), due);
    }

    public static void main(String[] args) {
        promise1NewObject();
        promise2Come();
        promise3Leave();
        promise3LeaveFromAmongOthers();
        promise4Earn();
        promise5Lend();
        promise6GiveBack();
        promise7Mask();
        promise8Pay();
        promise9Queue();
        promise10Open();
        promise10OpenLenderAndMasks();
        promise11Night();
        promise12Set();
        promise13Append();
        promise14ClearBuffer();
        promise15FirstError();
        promise16Revel();
        promise17Stopped();
        promise18Undo();
        promise18AllIsUndone();
        promise19Keep();
        promise20Restore();
        promise21Guest();
        promise22Law();
        promise23Count();
        promise24Line();
        promise25NoLoan();
        promise26WhyNot();
        promise27IfOpened();
        promise28BestGate();
        promise29FreeIn();
        promise30DecentShare();
        promise31Digest();
        C.end();
    }
}
