/** The edges of the saved states, the snapshot and the exceptions, and of the constants. */
final class UndoEdges extends Runs {
    private static final String UNDO = "Undo, the snapshot";
    private static final String EXCEPTIONS = "Exceptions";
    private static final String FULL = "^;^;^;^;^;^;^;^;^;^;^;^;^;^;^;^;^;^;^;^;^;^;^;^;^;^;^;^;^;^^";
    private static final String[] UNDOABLE = {
        "come", "leave", "earn", "lend", "giveBack", "mask", "pay", "queue", "open", "night", "set", "revel",
        "restore"};
    private static final String SAVES = "Each method that is marked \"undoable\" and does not throw an exception "
        + "saves the state from before it (also if it changes nothing)";

    private final Edges e;

    private UndoEdges(Edges e) {
        this.e = e;
    }

    static void run(Edges e) {
        UndoEdges all = new UndoEdges(e);
        all.constants();
        all.saving();
        all.whatIsSaved();
        all.savingWithoutChange();
        all.notSaving();
        all.throwingSavesNothing();
        all.stopsAndBuffers();
        all.savedStatesAndSnapshots();
        all.sixStates();
        all.sixStatesAmongOthers();
        all.throwingChangesNothing();
        all.firstInTheThrowsClause();
    }

    private void constants() {
        e.of(EXCEPTIONS, "The constants: `NONE = -1`: There is nothing to return.", x -> {
            e.due("NONE", LaceRanks.NONE, -1);
            x.come(0, 40, 0);
            e.due("no gate", x.guest(0, 8), -1);
            e.due("never", x.freeIn(0, 0), -1);
            e.due("no stop", x.stopped(0), -1);
        });
    }

    /** Coats lent along, one guest in a line, one inside with debts, one masked, a stop; two saved states. */
    private static void fair(LaceRanks x) {
        for (int i = 0; i < 7; i++) {
            x.come(4 - i % 5, 20 + i, 3 * i);
        }
        revel(x, "^;^;l0>1;l2>0;q3>1;q4>0;o0;m5;m9");
        x.keep();
        while (x.count(21) > 0) {
            x.undo();
        }
        x.restore();
        x.earn(4, 5);
    }

    private static void happen(LaceRanks x, String method) {
        switch (method) {
            case "come": x.come(1, 2, 3); break;
            case "leave": x.leave(6); break;
            case "earn": x.earn(6, 9); break;
            case "lend": x.lend(6, 5); break;
            case "giveBack": x.giveBack(0); break;
            case "mask": x.mask(6); break;
            case "pay": x.pay(4); break;
            case "queue": x.queue(6, 2); break;
            case "open": x.open(1); break;
            case "night": x.night(); break;
            case "set": x.set(5, 99); break;
            case "revel": revel(x, "^;m6"); break;
            default: x.restore();
        }
    }

    private void saving() {
        for (String method : UNDOABLE) {
            e.of(UNDO, SAVES, x -> {
                fair(x);
                long before = x.digest();
                happen(x, method);
                e.due(method + " saves a state", x.count(21), 3);
                e.due(method + " changes something", x.digest() != before, true);
                e.due(method + " is undone", x.undo(), 2);
                e.due("the state from before " + method, x.digest(), before);
            });
        }
    }

    private void whatIsSaved() {
        String all = "saves the state from before it";
        for (int left = 0; left < 3; left++) {
            int gone = left;
            e.of(UNDO, all, x -> {
                x.come(0, 40, 1);
                x.come(3, 30, 2);
                x.come(1, 20, 3);
                x.mask(2);
                x.keep();
                x.leave(gone);
                x.undo();
                e.row("guest 0", numbers(x, 0), 0, 1, 0, 40, 0, 40, 0, 0, NONE, NONE, NONE);
                e.row("guest 1", numbers(x, 1), 3, 2, 0, 30, 1, 30, 0, 0, NONE, NONE, NONE);
                e.row("guest 2", numbers(x, 2), 1, 0, 0, 20, 2, 20, 2, 0, NONE, NONE, NONE);
                x.leave(gone);
                x.come(4, 4, 4);
                x.restore();
                e.row("ranks", new int[] {x.guest(0, 0), x.guest(1, 0), x.guest(2, 0)}, 0, 3, 1);
            });
        }
        for (int gate = 0; gate < 3; gate++) {
            int its = gate;
            e.of(UNDO, all, x -> {
                come(x, 6);
                x.queue(5, its);
                x.queue(2, its);
                x.queue(4, its);
                x.keep();
                x.open(its);
                x.open(its);
                x.undo();
                e.row("two places", new int[] {x.guest(5, 9), x.guest(2, 9), x.guest(4, 9)}, NONE, 0, 1);
                x.undo();
                e.row("three places", new int[] {x.guest(5, 9), x.guest(2, 9), x.guest(4, 9)}, 0, 1, 2);
                x.leave(0);
                e.row("places", new int[] {x.guest(4, 9), x.guest(1, 9), x.guest(3, 9)}, 0, 1, 2);
                x.undo();
                e.row("places", new int[] {x.guest(5, 9), x.guest(2, 9), x.guest(4, 9)}, 0, 1, 2);
                x.night();
                x.queue(1, its);
                x.restore();
                e.row("places", new int[] {x.guest(5, 9), x.guest(2, 9), x.guest(4, 9)}, 0, 1, 2);
                e.due("one who stood there in the other night", x.guest(1, 9), NONE);
            });
        }
        e.of(UNDO, all, x -> {
            for (int setting = 0; setting < 6; setting++) {
                x.set(setting, 9);
            }
            for (int setting = 5; setting >= 0; setting--) {
                x.undo();
            }
            e.row("settings", counts(x, 15, 20), 2, 4, 3, 2, 2, 10);
        });
    }

    private void savingWithoutChange() {
        e.of(UNDO, "(also if it changes nothing)", x -> {
            e.due("the same value", x.set(0, 2), 2);
            e.due("set saved", x.count(21), 1);
            x.come(0, 0, 9);
            e.due("without debts", x.pay(0), 0);
            e.due("pay saved", x.count(21), 3);
            e.due("undone", x.undo(), 2);
            e.due("undone", x.undo(), 1);
            e.due("nobody", x.count(1), 0);
            e.due("undone", x.undo(), 0);
        });
        e.of(UNDO, "(also if it changes nothing)", x -> {
            x.come(0, 0, 9);
            for (int i = 0; i < 10; i++) {
                x.earn(0, 99);
            }
            e.due("the most already", x.earn(0, 1), 999);
            x.undo();
            e.due("earn saved: nothing is undone but it", x.guest(0, 1), 999);
            x.undo();
            e.due("then the last earning", x.guest(0, 1), 900);
        });
        e.of(UNDO, "(also if it changes nothing)", x -> {
            e.due("an empty line is opened", revel(x, "o0"), 1);
            e.due("revel saved", x.count(21), 1);
            e.due("nothing happens", revel(x, "m0"), 0);
            e.due("revel saved", x.count(21), 2);
            e.due("nothing happens once more", revel(x, "m0"), 0);
            e.due("revel saved", x.count(21), 3);
            x.keep();
            e.due("the same state", x.restore(), 0);
            e.due("restore saved", x.count(21), 4);
            x.undo();
            x.undo();
            e.due("the stop of the first", x.stopped(1), 10);
            x.undo();
            e.due("no stop", x.stopped(1), NONE);
        });
    }

    private void notSaving() {
        e.of(UNDO, SAVES, x -> {
            fair(x);
            x.append('^');
            e.due("append", x.count(21), 2);
            x.firstError();
            e.due("firstError", x.count(21), 2);
            x.clearBuffer();
            e.due("clearBuffer", x.count(21), 2);
            x.stopped(0);
            e.due("stopped", x.count(21), 2);
            x.keep();
            e.due("keep", x.count(21), 2);
            x.undo();
            e.due("undo drops one", x.count(21), 1);
            x.guest(0, 0);
            x.law(0, 0, 0);
            x.line(0);
            x.noLoan(0, 1);
            x.whyNot(0, true);
            x.ifOpened(0, 0, 0);
            x.bestGate(0);
            x.freeIn(0, 0);
            x.decentShare();
            x.digest();
            e.due("looks", x.count(21), 1);
        });
    }

    private void throwingSavesNothing() {
        e.of(UNDO, SAVES, x -> {
            fair(x);
            Check.Call[] calls = {
                () -> x.come(5, 0, 0), () -> x.leave(0), () -> x.leave(7), () -> x.earn(0, 0), () -> x.lend(0, 0),
                () -> x.giveBack(6), () -> x.mask(5), () -> x.pay(7), () -> x.queue(3, 0), () -> x.open(0),
                () -> x.set(0, 21), () -> x.append(32), x::revel, () -> x.stopped(2)};
            for (int i = 0; i < calls.length; i++) {
                e.due("call " + i + " throws", Check.told(calls[i]).startsWith("throws."), true);
                e.due("call " + i + " saves nothing", x.count(21), 2);
            }
        });
    }

    private void stopsAndBuffers() {
        String all = "all, also the latest stop, but the buffer, the saved states and the snapshot.";
        e.of(UNDO, all, x -> {
            revel(x, "^;m0");
            e.row("a stop", new int[] {x.stopped(0), x.stopped(1)}, 1, 10);
            x.come(0, 0, 0);
            revel(x, "m0");
            e.row("the next one", new int[] {x.stopped(0), x.stopped(1)}, 0, 9);
            revel(x, "^");
            e.row("none", new int[] {x.stopped(0), x.stopped(1)}, NONE, NONE);
            x.undo();
            e.row("the next one again", new int[] {x.stopped(0), x.stopped(1)}, 0, 9);
            x.undo();
            e.row("the first one again", new int[] {x.stopped(0), x.stopped(1)}, 1, 10);
            x.undo();
            e.row("come leaves it", new int[] {x.stopped(0), x.stopped(1)}, 1, 10);
            x.undo();
            e.row("none ahead of it", new int[] {x.stopped(0), x.stopped(1)}, NONE, NONE);
        });
        e.of(UNDO, all, x -> {
            type(x, "^;");
            x.night();
            type(x, "^;");
            x.undo();
            e.due("undo leaves the buffer", x.clearBuffer(), 4);
            revel(x, "^;^");
            x.undo();
            e.due("undo does not bring it back", x.clearBuffer(), 0);
            x.keep();
            type(x, "m0;");
            x.restore();
            e.due("restore leaves the buffer", x.clearBuffer(), 3);
        });
    }

    private void savedStatesAndSnapshots() {
        String all = "all, also the latest stop, but the buffer, the saved states and the snapshot.";
        e.of(UNDO, all, x -> {
            x.night();
            x.keep();
            x.night();
            x.undo();
            x.undo();
            e.due("no saved state comes back", x.count(21), 0);
            e.due("a snapshot that was taken behind it stays", x.restore(), 1);
            e.due("restore saves one", x.count(21), 1);
            x.night();
            x.keep();
            x.undo();
            x.undo();
            e.due("undo leaves the snapshot", x.restore(), 2);
        });
        e.of(UNDO, all, x -> {
            x.night();
            x.night();
            x.keep();
            x.night();
            x.restore();
            e.due("restore leaves the saved states, and saves one", x.count(21), 4);
            for (int left = 3; left >= 0; left--) {
                e.due("what is left", x.undo(), left);
                e.due("the night", x.count(0), left);
            }
        });
        e.of(UNDO, all, x -> {
            revel(x, "m0");
            x.keep();
            revel(x, "^");
            x.restore();
            e.row("the stop of the snapshot", new int[] {x.stopped(0), x.stopped(1)}, 0, 10);
        });
    }

    private void sixStates() {
        String six = "At most 6 states are saved; the oldest one is dropped first.";
        for (int calls = 0; calls <= 20; calls++) {
            int nights = calls;
            e.of(UNDO, six, x -> {
                for (int i = 0; i < nights; i++) {
                    x.night();
                    e.due("saved states", x.count(21), i < 6 ? i + 1 : 6);
                }
                int saved = nights < 6 ? nights : 6;
                for (int left = saved - 1; left >= 0; left--) {
                    e.due("what is left", x.undo(), left);
                    e.due("the night", x.count(0), nights - saved + left);
                }
                e.told("no more", x::undo, Edges.STATE);
                e.due("the night", x.count(0), nights - saved);
            });
        }
    }

    private void sixStatesAmongOthers() {
        String six = "At most 6 states are saved; the oldest one is dropped first.";
        for (int first = 0; first <= 8; first++) {
            int calls = first;
            e.of(UNDO, six, x -> {
                for (int i = 0; i < calls; i++) {
                    x.night();
                }
                for (int i = 0; i < 3 && x.count(21) > 0; i++) {
                    x.undo();
                }
                int night = x.count(0);
                for (int i = 0; i < 7; i++) {
                    x.night();
                }
                for (int left = 5; left >= 0; left--) {
                    e.due("what is left", x.undo(), left);
                    e.due("the night", x.count(0), night + 1 + left);
                }
                e.told("no more", x::undo, Edges.STATE);
            });
        }
    }

    private void changesNothing(String want, Edges.Call... calls) {
        e.of(EXCEPTIONS, "A call that throws an exception changes nothing.", x -> {
            for (int i = 0; i < calls.length; i++) {
                e.refused("call " + i + " of those with " + want, UndoEdges::fair, calls[i], want);
            }
        });
    }

    private void throwingChangesNothing() {
        changesNothing(Edges.INDEX, x -> x.leave(7), x -> x.earn(7, 1), x -> x.lend(7, 0), x -> x.lend(0, 7),
            x -> x.giveBack(7), x -> x.mask(7), x -> x.pay(7), x -> x.queue(7, 0), x -> x.queue(6, 3), x -> x.open(3),
            x -> x.set(6, 0), x -> x.guest(7, 0), x -> x.law(3, 0, 0), x -> x.line(3), x -> x.noLoan(7, 0),
            x -> x.noLoan(0, 7), x -> x.whyNot(7, true), x -> x.whyNot(7, false), x -> x.ifOpened(7, 0, 0),
            x -> x.ifOpened(0, 3, 0), x -> x.bestGate(7), x -> x.freeIn(7, 0), x -> x.freeIn(0, 3));
        changesNothing(Edges.ARGUMENT, x -> x.come(5, 0, 0), x -> x.come(0, 41, 0), x -> x.come(0, 0, 100),
            x -> x.earn(0, 0), x -> x.earn(0, 100), x -> x.set(0, 21), x -> x.set(3, 0), x -> x.append(32),
            x -> x.append(127), x -> x.revel(), x -> x.stopped(2), x -> x.guest(0, 11), x -> x.law(0, 5, 0),
            x -> x.law(0, 0, -1), x -> x.count(22), x -> x.ifOpened(0, 0, 4));
        changesNothing(Edges.STATE, x -> x.leave(0), x -> x.leave(1), x -> x.leave(2), x -> x.leave(3), x -> x.leave(4),
            x -> x.lend(0, 3), x -> x.lend(6, 6), x -> x.lend(6, 1), x -> x.lend(6, 4), x -> x.giveBack(2),
            x -> x.giveBack(6), x -> x.mask(5), x -> x.mask(0), x -> x.queue(3, 0), x -> x.queue(4, 0), x -> x.open(0),
            x -> x.open(2));
        e.of(EXCEPTIONS, "A call that throws an exception changes nothing.", x -> {
            e.refusedAsItIs("undo without a saved state", y -> type(y, "q0"), LaceRanks::undo, Edges.STATE);
            e.refusedAsItIs("restore without a snapshot", UndoEdges::withoutSnapshot, LaceRanks::restore, Edges.STATE);
            e.refusedAsItIs("append at 60", y -> type(y, FULL), y -> y.append('^'), Edges.STATE);
            e.refusedAsItIs("revel at 60", y -> type(y, FULL), LaceRanks::revel, Edges.ARGUMENT);
        });
    }

    private static void withoutSnapshot(LaceRanks x) {
        come(x, 10);
        revel(x, "q0>0;q1>1;o0;^;m0;m0");
        type(x, "o1;");
    }

    private void firstInTheThrowsClause() {
        String first = "If several exceptions apply, the one that is named first in the throws clause is thrown.";
        e.of(EXCEPTIONS, first, x -> {
            e.refused("come: argument, state", y -> come(y, 10), y -> y.come(5, 0, 0), Edges.ARGUMENT);
            e.refused("come: argument, state", y -> come(y, 10), y -> y.come(0, -1, 0), Edges.ARGUMENT);
            e.refused("come: argument, state", y -> come(y, 10), y -> y.come(0, 0, 100), Edges.ARGUMENT);
            e.refused("earn: index, argument", y -> come(y, 2), y -> y.earn(2, 0), Edges.INDEX);
            e.refused("earn: index, argument", y -> come(y, 2), y -> y.earn(-1, 100), Edges.INDEX);
            e.refused("lend: index, state", y -> come(y, 2), y -> y.lend(2, 2), Edges.INDEX);
            e.refused("lend: index, state", UndoEdges::fair, y -> y.lend(0, 7), Edges.INDEX);
            e.refused("lend: index, state", UndoEdges::fair, y -> y.lend(-1, 1), Edges.INDEX);
            e.refused("queue: index, state", UndoEdges::fair, y -> y.queue(3, 3), Edges.INDEX);
            e.refused("queue: index, state", UndoEdges::fair, y -> y.queue(4, -1), Edges.INDEX);
            e.refused("open: index, state", y -> come(y, 2), y -> y.open(3), Edges.INDEX);
            e.refused("set: index, argument", y -> come(y, 2), y -> y.set(6, -1), Edges.INDEX);
            e.refused("set: index, argument", y -> come(y, 2), y -> y.set(-1, 100), Edges.INDEX);
        });
        e.of(EXCEPTIONS, first, x -> {
            for (int code : new int[] {32, 127, -1, LEAST, MOST}) {
                e.refusedAsItIs("append: argument, state", y -> type(y, FULL), y -> y.append(code), Edges.ARGUMENT);
            }
            e.refused("guest: index, argument", y -> come(y, 2), y -> y.guest(2, 11), Edges.INDEX);
            e.refused("guest: index, argument", y -> come(y, 2), y -> y.guest(-1, -1), Edges.INDEX);
            e.refused("law: index, argument", y -> come(y, 2), y -> y.law(3, 5, 0), Edges.INDEX);
            e.refused("law: index, argument", y -> come(y, 2), y -> y.law(-1, 0, -1), Edges.INDEX);
            e.refused("ifOpened: index, argument", y -> come(y, 2), y -> y.ifOpened(2, 0, 4), Edges.INDEX);
            e.refused("ifOpened: index, argument", y -> come(y, 2), y -> y.ifOpened(0, 3, -1), Edges.INDEX);
        });
    }
}
