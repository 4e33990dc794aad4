/** The edges of the promises 13 to 20: the buffer, texts that happen, undo and the snapshot. */
final class RevelEdges extends Runs {
    private static final String NIGHTS_56 = "^;^;^;^;^;^;^;^;^;^;^;^;^;^;^;^;^;^;^;^;^;^;^;^;^;^;^;^;";

    private final Edges e;

    private RevelEdges(Edges e) {
        this.e = e;
    }

    static void run(Edges e) {
        RevelEdges all = new RevelEdges(e);
        all.append();
        all.appendRefused();
        all.clearBuffer();
        all.firstError();
        all.revelStops();
        all.shorterBehindLonger();
        all.stoppingPartChangesNothing();
        all.revelAlwaysCan();
        all.revelIsOneCall();
        all.howManyParts();
        all.revelRefused();
        all.stopped();
        all.reasons();
        all.reasonsOfMissingGuests();
        all.undo();
        all.keep();
        all.restore();
    }

    /** Four guests without lace and with 9 ribbons, then one with 40 ells and without ribbons. */
    private static LaceRanks five() {
        LaceRanks x = new LaceRanks();
        for (int i = 0; i < 4; i++) {
            x.come(0, 0, 9);
        }
        x.come(0, 40, 0);
        return x;
    }

    private void append() {
        e.of("13", "Appends a character to the buffer.", x -> {
            type(x, "q0>");
            e.due("at its end", x.append('7'), 4);
            e.due("it is an error there", x.firstError(), 3);
        });
        e.of("13", "`code`: the character code, 33 to 126", x -> {
            for (int code = 33; code <= 126; code++) {
                LaceRanks y = new LaceRanks();
                e.due("code " + code, y.append(code), 1);
                e.due("it stands there", y.digest(), digestOf(new LaceRanks(), "" + (char) code));
            }
        });
        e.of("13", "Returns the new length of the buffer.", x -> {
            for (int length = 1; length <= 60; length++) {
                e.due("its length", x.append(33 + length), length);
            }
        });
    }

    private void appendRefused() {
        String full = NIGHTS_56 + "^;^;";
        e.of("13", "Throws `IllegalArgumentException` if code is not 33 to 126", x -> {
            for (int wrong : new int[] {32, 127, 0, -1, 128, 33 + 256, 33 - 256, 33 + 65536, LEAST, MOST}) {
                e.refused("code " + wrong, y -> type(y, "q0"), y -> y.append(wrong), Edges.ARGUMENT);
                e.refusedAsItIs("empty, code " + wrong, y -> type(y, ""), y -> y.append(wrong), Edges.ARGUMENT);
                e.refusedAsItIs("full, code " + wrong, y -> type(y, full), y -> y.append(wrong), Edges.ARGUMENT);
            }
        });
        e.of("13", "Throws `IllegalStateException` if the buffer has 60 characters", x -> {
            for (int code : new int[] {33, '^', 126}) {
                e.refusedAsItIs("code " + code, y -> type(y, full), y -> y.append(code), Edges.STATE);
            }
            type(x, full.substring(1));
            e.due("behind 59", x.append('^'), 60);
            e.told("behind 60", () -> x.append('^'), Edges.STATE);
        });
    }

    private void clearBuffer() {
        e.of("14", "Clears the buffer.", x -> {
            type(x, "q~");
            x.clearBuffer();
            e.due("no error is left", x.firstError(), 0);
            e.due("nothing is left", revel(x, "^"), 1);
            type(x, NIGHTS_56 + "^;^;");
            x.clearBuffer();
            e.due("there is room again", x.append('m'), 1);
        });
        for (String cleared : new String[] {"o1*10", "o1*19", "o1*9;", "o1*2", "~~~~0", "~~*10", "~~~~;o1"}) {
            e.of("14", "Clears the buffer.", x -> {
                come(x, 10);
                for (int i = 0; i < 10; i++) {
                    x.queue(i, 1);
                }
                type(x, cleared);
                x.clearBuffer();
                e.due("nothing of '" + cleared + "' stands behind o1", revel(x, "o1"), 1);
                e.due("opened once", x.count(2), 1);
                type(x, cleared);
                x.clearBuffer();
                e.due("nothing of '" + cleared + "' stands behind o1*1", revel(x, "o1*1"), 1);
                e.due("opened once", x.count(2), 2);
            });
        }
        e.of("14", "Returns the length that it had.", x -> {
            e.due("empty", x.clearBuffer(), 0);
            x.append('^');
            e.due("one", x.clearBuffer(), 1);
            type(x, NIGHTS_56 + "^;^");
            e.due("one less than the most", x.clearBuffer(), 59);
            type(x, NIGHTS_56 + "^;^;");
            e.due("the most", x.clearBuffer(), 60);
            e.due("empty again", x.clearBuffer(), 0);
        });
    }

    private void firstError() {
        e.of("15", "Finds the first syntax error of the buffer.", x -> {
            type(x, "q0>0;q0>5;q0>6;~");
            e.due("the first of three", x.firstError(), 8);
            e.due("the buffer stays", x.clearBuffer(), 16);
        });
        String index = "Returns the index of the first character that is a syntax error; the length of the buffer if "
            + "there is none.";
        e.of("15", index, x -> {
            e.due("empty", x.firstError(), 0);
            type(x, ";");
            e.due("the first character", x.firstError(), 0);
            x.clearBuffer();
            type(x, "^");
            e.due("the length", x.firstError(), 1);
            type(x, "^");
            e.due("the last character", x.firstError(), 1);
        });
        e.of("15", index, x -> {
            type(x, NIGHTS_56 + "^;^;");
            e.due("the length of 60", x.firstError(), 60);
        });
        e.of("15", index, x -> {
            type(x, NIGHTS_56 + "^;^0");
            e.due("the last of 60", x.firstError(), 59);
        });
    }

    private void revelStops() {
        String happens = "Lets the carnival in the buffer happen, part by part, up to the first part that cannot, and "
            + "clears the buffer.";
        e.of("16", happens, x -> {
            LaceRanks y = five();
            e.due("the third cannot", revel(y, "m0;q0>0;q0>0;m1;^"), 2);
            e.row("the first two did", new int[] {y.guest(0, 6), y.line(0)}, 2, 1);
            e.row("nothing behind it", new int[] {y.guest(1, 6), y.count(0)}, 0, 0);
            e.due("the buffer is clear", y.clearBuffer(), 0);
        });
        e.of("16", happens, x -> {
            LaceRanks y = five();
            e.due("the first cannot", revel(y, "m4;^;^"), 0);
            e.row("nothing happens", new int[] {y.count(0), y.guest(4, 6)}, 0, 0);
            e.due("the buffer is clear", y.clearBuffer(), 0);
            e.due("all can", revel(y, "^;m0"), 2);
            e.due("the buffer is clear", y.clearBuffer(), 0);
        });
        e.of("16", happens, x -> {
            LaceRanks y = five();
            e.due("part by part, each on what is behind the one before", revel(y, "q0>0;^;q0>1;o1;^;q0>2"), 6);
            e.row("lines", new int[] {y.line(0), y.line(1), y.line(2)}, 0, 0, 1);
        });
    }

    private void shorterBehindLonger() {
        for (String longer : new String[] {"o0*10", "o0*9;^", "m0;o0*10", "^;^;^;^;^;^"}) {
            for (String once : new String[] {"o0", "o0*1"}) {
                e.of("16", "and clears the buffer.", x -> {
                    come(x, 10);
                    revel(x, longer);
                    for (int i = 0; i < 10; i++) {
                        x.queue(i, 0);
                    }
                    e.due(once + " behind " + longer, revel(x, once), 1);
                    e.due("opened once", x.count(2), 1);
                });
            }
        }
    }

    private void stoppingPartChangesNothing() {
        String happens = "Lets the carnival in the buffer happen, part by part, up to the first part that cannot, and "
            + "clears the buffer.";
        String[] parts = {
            "l0>1;l2>0;l3>3", "l0>1;l2>0;l0>3", "l0>1;l2>0;l1>3", "l0>1;l2>0;l3>0", "q0>0;o0;l1>0", "q0>0;o0;q0>1",
            "q0>0;q1>0;q0>2", "q4>0;o0;^;q4>1", "m0;m0", "m0;^;m0", "^;m4", "^;q5>0", "^;m5", "^;l0>5", "^;l5>0",
            "^;$5"};
        for (String text : parts) {
            e.of("16", happens, x -> {
                LaceRanks stopped = five();
                LaceRanks twin = five();
                revel(stopped, text + ";^;m1");
                revel(twin, text.substring(0, text.lastIndexOf(';')));
                e.due(text + " stops at its end", stopped.stopped(0), text.replaceAll("[^;]", "").length());
                e.row("counts of " + text, counts(stopped, 0, 21), counts(twin, 0, 21));
                for (int i = 0; i < 5; i++) {
                    e.row("guest " + i + " of " + text, numbers(stopped, i), numbers(twin, i));
                }
            });
        }
    }

    private void revelAlwaysCan() {
        String can = "(Opening, paying and the end of the night always can; opening a gate with an empty line does "
            + "nothing.)";
        e.of("16", can, x -> {
            e.due("empty lines", revel(x, "o0;o1;o2;o0*1;o1*10;o2*9"), 6);
            e.row("nothing", counts(x, 0, 14), 0, 0, 0, 0, 0, 0, 0, 0, 0, 0, 0, 0, 0, 0, 0);
            e.row("no stop", new int[] {x.stopped(0), x.stopped(1)}, NONE, NONE);
        });
        e.of("16", can, x -> {
            LaceRanks y = five();
            e.due("without debts", revel(y, "$0;$0"), 2);
            e.due("a fine, and without ribbons", revel(y, "q4>0;o0;$4"), 3);
            e.row("nothing is paid", new int[] {y.guest(0, 1), y.guest(4, 1), y.guest(4, 2)}, 9, 0, 76);
            e.due("inside", revel(y, "$4;^;$4"), 3);
            y.earn(4, 80);
            e.due("with ribbons", revel(y, "$4"), 1);
            e.row("all is paid", new int[] {y.guest(4, 1), y.guest(4, 2), y.count(5)}, 4, 0, 76);
        });
        e.of("16", can, x -> {
            e.due("nights without guests", revel(x, "^;^;^"), 3);
            e.due("the night", x.count(0), 3);
        });
    }

    private void revelIsOneCall() {
        String one = "Undoable, as one call, also if nothing happens.";
        e.of("16", one, x -> {
            LaceRanks y = five();
            long before = y.digest();
            revel(y, "m0;q0>0;o0;^;q4>1;o1");
            e.due("one more saved state", y.count(21), 6);
            y.undo();
            e.row("all parts are undone", counts(y, 0, 13), 0, 5, 0, 0, 36, 0, 0, 36, 40, 0, 40, 0, 0, 0);
            e.due("all parts are undone", y.digest(), before);
        });
        e.of("16", one, x -> {
            e.due("nothing happens", revel(x, "m0"), 0);
            e.due("saved", x.count(21), 1);
            e.due("undone", x.undo(), 0);
            e.row("no stop", new int[] {x.stopped(0), x.stopped(1)}, NONE, NONE);
        });
        e.of("16", "The latest stop is that of this call then, or none, if all happens.", x -> {
            LaceRanks y = five();
            revel(y, "m0;m0");
            e.row("a stop", new int[] {y.stopped(0), y.stopped(1)}, 1, 8);
            revel(y, "m4");
            e.row("the next stop", new int[] {y.stopped(0), y.stopped(1)}, 0, 9);
            y.night();
            e.row("other calls leave it", new int[] {y.stopped(0), y.stopped(1)}, 0, 9);
            type(y, "m");
            e.told("a call that throws", y::revel, Edges.ARGUMENT);
            e.row("leaves it", new int[] {y.stopped(0), y.stopped(1)}, 0, 9);
            type(y, "1");
            y.revel();
            e.row("none, as all happens", new int[] {y.stopped(0), y.stopped(1)}, NONE, NONE);
        });
    }

    private void howManyParts() {
        e.of("16", "Returns how many parts happen.", x -> {
            e.due("none", revel(x, "m0"), 0);
            e.due("one", revel(x, "^"), 1);
            e.due("one, opened often", revel(x, "o0*10"), 1);
            e.due("one of two", revel(x, "^;m0"), 1);
            e.due("the most", revel(x, NIGHTS_56 + "^;^"), 30);
            e.due("all but the last of 30", revel(x, NIGHTS_56 + "^;m0"), 29);
            e.due("the nights", x.count(0), 61);
        });
    }

    private void notComplete(String text) {
        e.refusedAsItIs("'" + text + "'", x -> {
            come(x, 3);
            Edges.clutter(x);
            x.clearBuffer();
            type(x, text);
        }, LaceRanks::revel, Edges.ARGUMENT);
        LaceRanks y = withGuests(3);
        type(y, text);
        e.told("'" + text + "'", y::revel, Edges.ARGUMENT);
        e.due("the buffer stays", y.clearBuffer(), text.length());
    }

    private void revelRefused() {
        e.of("16", "Throws `IllegalArgumentException` if the buffer is not a complete carnival as a text (the buffer "
            + "stays)", x -> {
            String[] texts = {
                "", ";", "^;", "q", "q0", "q0>", "q0>3", "q10>0", "o", "o3", "o0*", "o0*0", "o0*11", "m", "m;", "l",
                "l0",
                "l0>", "l0>10", "$", "^^", "^;;^", "^;x", "x;^", "^;q0>0;", NIGHTS_56 + "^;^;", NIGHTS_56 + "^;^^",
                NIGHTS_56 + "^;m", "~" + NIGHTS_56 + "^;^"};
            for (String text : texts) {
                notComplete(text);
            }
        });
    }

    private void stopped() {
        e.of("17", "`what`: 0: the number of the part that stopped it, from 0;", x -> {
            revel(x, "m0;^");
            e.due("the first", x.stopped(0), 0);
            revel(x, "^;m0;^");
            e.due("the second", x.stopped(0), 1);
            revel(x, NIGHTS_56 + "^;m0");
            e.due("the last there can be", x.stopped(0), 29);
            revel(x, "o0*10;o1*10;m0");
            e.due("a gate that is opened often is one part", x.stopped(0), 2);
        });
        e.of("17", "Returns the number; NONE if there is no stop.", x -> {
            e.row("a new object", new int[] {x.stopped(0), x.stopped(1)}, NONE, NONE);
            revel(x, "^");
            e.row("all happens", new int[] {x.stopped(0), x.stopped(1)}, NONE, NONE);
            revel(x, "m0");
            e.row("a stop", new int[] {x.stopped(0), x.stopped(1)}, 0, 10);
            revel(x, "^");
            e.row("all happens again", new int[] {x.stopped(0), x.stopped(1)}, NONE, NONE);
        });
        e.of("17", "Throws `IllegalArgumentException` if what is neither 0 nor 1", x -> {
            for (int wrong : new int[] {-1, 2, LEAST, MOST}) {
                e.refused("what " + wrong, y -> come(y, 1), y -> y.stopped(wrong), Edges.ARGUMENT);
                e.refused("with a stop, what " + wrong, y -> revel(y, "m0"), y -> y.stopped(wrong), Edges.ARGUMENT);
            }
        });
    }

    private void reason(String text, int part, int reason) {
        LaceRanks x = five();
        e.due("parts of " + text, revel(x, text), part);
        e.row("the stop of " + text, new int[] {x.stopped(0), x.stopped(1)}, part, reason);
    }

    private void reasons() {
        String reasons = "1: the reason, 1 to 3, 5 to 9, or 10 if there is no such guest";
        e.of("17", reasons, x -> {
            reason("l0>0", 0, 1);
            reason("l0>1;l0>0", 1, 1);
            reason("l0>1;l0>2", 1, 2);
            reason("l0>1;l1>2", 1, 2);
            reason("l0>1;l0>1", 1, 2);
            reason("l0>1;l2>1", 1, 3);
            reason("q0>0;o0;l1>0", 2, 3);
        });
        e.of("17", reasons, x -> {
            reason("q0>0;o0;q0>1", 2, 5);
            reason("q4>0;o0;q4>1", 2, 5);
            reason("q0>0;q0>0", 1, 6);
            reason("q0>0;q0>2", 1, 6);
            reason("q4>0;o0;^;q4>0", 3, 7);
            reason("m0;m0", 1, 8);
            reason("m0;^;m0", 2, 8);
            reason("m4", 0, 9);
            reason("m0;^;^;m0;^;^;m0;^;^;m0", 9, 9);
        });
    }

    private void reasonsOfMissingGuests() {
        e.of("17", "or 10 if there is no such guest", x -> {
            String[] parts = {"q5>0", "q9>2", "m5", "m9", "l5>0", "l0>5", "l5>5", "l9>9", "l9>0", "$5", "$9"};
            for (String part : parts) {
                reason(part, 0, 10);
                reason("^;" + part + ";^", 1, 10);
            }
            for (String part : new String[] {"q4>0", "$4", "l4>3", "l3>4"}) {
                e.due("the last one is there: " + part, revel(five(), part), 1);
            }
        });
        e.of("17", "or 10 if there is no such guest", x -> {
            for (String part : new String[] {"q0>0", "m0", "l0>0", "l0>1", "$0"}) {
                LaceRanks y = new LaceRanks();
                e.due("without guests: " + part, revel(y, part), 0);
                e.row("the stop", new int[] {y.stopped(0), y.stopped(1)}, 0, 10);
                LaceRanks full = withGuests(10);
                revel(full, "q9>0;m9;l9>8;$9");
                e.row("with 10 guests", new int[] {full.stopped(0), full.stopped(1)}, NONE, NONE);
            }
        });
        e.of("17", "or 10 if there is no such guest", x -> {
            come(x, 2);
            x.leave(0);
            e.due("the number of one who left", revel(x, "m1"), 0);
            e.due("the reason", x.stopped(1), 10);
            e.due("the one behind it", revel(x, "m0"), 1);
        });
    }

    private void undo() {
        e.of("18", "Restores the latest saved state, and drops it.", x -> {
            come(x, 3);
            x.undo();
            e.due("the latest", x.count(1), 2);
            x.undo();
            e.due("the one before", x.count(1), 1);
            x.night();
            x.undo();
            e.row("the latest again", counts(x, 0, 1), 0, 1);
            x.undo();
            e.due("the first", x.count(1), 0);
        });
        e.of("18", "Returns how many saved states are left.", x -> {
            x.night();
            e.due("none", x.undo(), 0);
            for (int i = 0; i < 6; i++) {
                x.night();
            }
            e.due("one less than the most", x.undo(), 5);
            x.night();
            x.night();
            e.due("the seventh dropped the oldest", x.undo(), 5);
        });
        e.of("18", "Throws `IllegalStateException` if there is none", x -> {
            e.refusedAsItIs("a new object", y -> type(y, "q0>"), LaceRanks::undo, Edges.STATE);
            e.refusedAsItIs("with a snapshot", LaceRanks::keep, LaceRanks::undo, Edges.STATE);
            e.refusedAsItIs("all undone", y -> nightsUndone(y, 3), LaceRanks::undo, Edges.STATE);
            e.refusedAsItIs("six undone", y -> nightsUndone(y, 6), LaceRanks::undo, Edges.STATE);
            e.refusedAsItIs("six of eight undone", y -> nightsUndone(y, 8), LaceRanks::undo, Edges.STATE);
        });
    }

    private static void nightsUndone(LaceRanks x, int nights) {
        for (int i = 0; i < nights; i++) {
            x.night();
        }
        while (x.count(21) > 0) {
            x.undo();
        }
    }

    private void keep() {
        e.of("19", "Takes a snapshot, in place of the one before.", x -> {
            x.keep();
            come(x, 2);
            x.keep();
            x.leave(0);
            x.restore();
            e.due("the later one", x.count(1), 2);
            x.restore();
            e.due("there is only that", x.count(1), 2);
        });
        e.of("19", "Takes a snapshot, in place of the one before.", x -> {
            come(x, 2);
            x.keep();
            x.leave(0);
            x.set(0, 20);
            x.restore();
            e.row("what was changed behind it", new int[] {x.count(1), x.count(15)}, 2, 2);
        });
        e.of("19", "Returns the night.", x -> {
            e.due("the first", x.keep(), 0);
            revel(x, "^;^;^");
            e.due("the fourth", x.keep(), 3);
            e.due("the same", x.keep(), 3);
        });
    }

    private void restore() {
        e.of("20", "Restores the state of the snapshot, which stays.", x -> {
            come(x, 2);
            x.keep();
            for (int i = 0; i < 3; i++) {
                x.night();
                x.leave(0);
                x.restore();
                e.row("the state of the snapshot", counts(x, 0, 1), 0, 2);
            }
        });
        e.of("20", "Undoable.", x -> {
            x.keep();
            x.night();
            x.restore();
            e.due("saved", x.count(21), 2);
            e.due("undone", x.undo(), 1);
            e.due("the night", x.count(0), 1);
        });
        e.of("20", "Returns the night then.", x -> {
            x.keep();
            x.night();
            e.due("the night of the snapshot", x.restore(), 0);
            x.night();
            x.night();
            x.keep();
            e.due("of the next one", x.restore(), 2);
        });
        e.of("20", "Throws `IllegalStateException` if there is no snapshot", x -> {
            e.refusedAsItIs("a new object", y -> type(y, "m0"), LaceRanks::restore, Edges.STATE);
            e.refusedAsItIs("with saved states", y -> come(y, 9), LaceRanks::restore, Edges.STATE);
            e.refusedAsItIs("behind an undo", y -> nightsUndone(y, 2), LaceRanks::restore, Edges.STATE);
            e.refusedAsItIs("behind a stop", y -> revel(y, "^;m0"), LaceRanks::restore, Edges.STATE);
        });
    }
}
