/** The edges of settings and of carnivals as texts. */
final class TextEdges extends Runs {
    private static final String SETTINGS = "Settings";
    private static final String TEXT = "Input text";
    private static final String DIGITS = "0123456789";

    private final Edges e;

    private TextEdges(Edges e) {
        this.e = e;
    }

    static void run(Edges e) {
        TextEdges all = new TextEdges(e);
        all.settings();
        all.settingsAtTheirEdges();
        all.length();
        all.oneOrMoreParts();
        all.lines();
        all.openings();
        all.howOftenOpened();
        all.masksLoansPayingAndNights();
        all.numbersWithoutLeadingZero();
        all.errors();
        all.errorsAtTheEnd();
    }

    private void setting(String sentence, int setting, int least, int most, int first) {
        e.of(SETTINGS, sentence, x -> {
            e.due("at first", x.count(15 + setting), first);
            e.due("the value before the least", x.set(setting, least), first);
            e.due("the least", x.count(15 + setting), least);
            e.due("the value before the most", x.set(setting, most), least);
            e.due("the most", x.count(15 + setting), most);
            int[] firsts = {2, 4, 3, 2, 2, 10};
            for (int other = 0; other < 6; other++) {
                if (other != setting) {
                    e.due("setting " + other + " stays", x.count(15 + other), firsts[other]);
                }
            }
        });
        e.of(SETTINGS, sentence, x -> {
            for (int value = least; value <= most; value++) {
                x.set(setting, value);
                e.due("a value between", x.count(15 + setting), value);
            }
            for (int wrong : new int[] {least - 1, most + 1, LEAST, MOST}) {
                e.refused("the value " + wrong, y -> y.set(setting, most), y -> y.set(setting, wrong), Edges.ARGUMENT);
            }
        });
    }

    private void settings() {
        setting("0: 0 to 20, at first 2;", 0, 0, 20, 2);
        setting("1: 0 to 10, at first 4;", 1, 0, 10, 4);
        setting("2: 0 to 9, at first 3;", 2, 0, 9, 3);
        setting("3: 1 to 9, at first 2;", 3, 1, 9, 2);
        setting("4: 1 to 9, at first 2;", 4, 1, 9, 2);
        setting("5: 0 to 99, at first 10.", 5, 0, 99, 10);
    }

    private void settingsAtTheirEdges() {
        e.of(SETTINGS, "3: 1 to 9, at first 2;", x -> {
            x.come(0, 5, 0);
            e.due("at first", x.ifOpened(0, 0, 1), 6);
            x.set(3, 1);
            e.due("the least", x.ifOpened(0, 0, 1), 3);
            x.set(3, 9);
            e.due("the most", x.ifOpened(0, 0, 1), 27);
        });
        e.of(SETTINGS, "4: 1 to 9, at first 2;", x -> {
            come(x, 3);
            x.mask(0);
            x.set(4, 1);
            x.mask(1);
            x.set(4, 9);
            x.mask(2);
            e.row("masks", new int[] {x.guest(0, 6), x.guest(1, 6), x.guest(2, 6)}, 2, 1, 9);
        });
    }

    private void length() {
        String most = "The buffer has at most 60 characters.";
        e.of(TEXT, most, x -> {
            e.due("none yet", x.clearBuffer(), 0);
            for (int i = 1; i <= 60; i++) {
                e.due("character " + i, x.append('^'), i);
            }
            e.told("a 61st", () -> x.append('^'), Edges.STATE);
            e.told("once more", () -> x.append(';'), Edges.STATE);
            e.due("it has 60", x.clearBuffer(), 60);
            e.due("empty again", x.append('^'), 1);
        });
        e.of(TEXT, most, x -> {
            x.come(0, 0, 9);
            type(x, "^;^;^;^;^;^;^;^;^;^;^;^;^;^;^;^;^;^;^;^;^;^;^;^;^;^;^;^;^;m0");
            e.due("60 characters that are a carnival", x.revel(), 30);
            e.row("all happens", new int[] {x.count(0), x.count(13)}, 29, 1);
        });
    }

    private void right(String text) {
        LaceRanks x = new LaceRanks();
        type(x, text);
        e.due("no error in '" + text + "'", x.firstError(), text.length());
    }

    private void complete(String text, int parts) {
        right(text);
        LaceRanks x = withGuests(10);
        type(x, text);
        e.told("parts that happen in '" + text + "'", x::revel, parts);
    }

    private void incomplete(String text) {
        right(text);
        LaceRanks x = withGuests(10);
        type(x, text);
        e.told("not a complete carnival: '" + text + "'", x::revel, Edges.ARGUMENT);
    }

    private void wrong(String text, int at) {
        LaceRanks x = new LaceRanks();
        type(x, text);
        e.due("the first error in '" + text + "'", x.firstError(), at);
        e.told("not a carnival: '" + text + "'", x::revel, Edges.ARGUMENT);
    }

    private void oneOrMoreParts() {
        e.of(TEXT, "A carnival as a text is one or more parts with \";\" between them:", x -> {
            incomplete("");
            complete("^", 1);
            complete("m0", 1);
            incomplete("^;");
            complete("^;^", 2);
            complete("q0>0;o0;m1;l2>3;$4;^", 6);
            wrong(";", 0);
            wrong(";^", 0);
            wrong("^;;", 2);
            wrong("^^", 1);
            wrong("m0m1", 2);
            wrong("^,^", 1);
        });
    }

    private void lines() {
        String line = "\"q\", a guest, 0 to 9, \">\", and a gate, 0 to 2 (it stands in the line);";
        e.of(TEXT, line, x -> {
            for (int guest = 0; guest <= 9; guest++) {
                complete("q" + guest + ">0", 1);
            }
            for (int gate = 0; gate <= 2; gate++) {
                complete("q9>" + gate, 1);
            }
            for (int gate = 3; gate <= 9; gate++) {
                wrong("q9>" + gate, 3);
            }
            wrong("q10>0", 2);
            wrong("q:>0", 1);
            wrong("q/>0", 1);
            wrong("q0>/", 3);
            wrong("q0<0", 2);
            wrong("Q0>0", 0);
            incomplete("q");
            incomplete("q0");
            incomplete("q0>");
        });
        e.of(TEXT, line, x -> {
            come(x, 10);
            e.due("parts", revel(x, "q9>2;q0>0;q4>1;q5>2"), 4);
            e.row("the lines", new int[] {x.line(0), x.line(1), x.line(2)}, 1, 1, 2);
            e.row("the places", new int[] {x.guest(9, 9), x.guest(5, 9)}, 0, 1);
        });
    }

    private void openings() {
        e.of(TEXT, "\"o\", a gate, and perhaps \"*\" and 1 to 10", x -> {
            for (int gate = 0; gate <= 2; gate++) {
                complete("o" + gate, 1);
                for (int times = 1; times <= 10; times++) {
                    complete("o" + gate + "*" + times, 1);
                    complete("o" + gate + "*" + times + ";^", 2);
                }
                wrong("o" + gate + "*0", 3);
                wrong("o" + gate + "*11", 4);
                wrong("o" + gate + "*12", 4);
                wrong("o" + gate + "*19", 4);
                wrong("o" + gate + "*20", 4);
                wrong("o" + gate + "*100", 5);
                wrong("o" + gate + "*01", 3);
                wrong("o" + gate + "*-1", 3);
                wrong("o" + gate + "*1*1", 4);
                incomplete("o" + gate + "*");
            }
            wrong("o3", 1);
            wrong("o9*1", 1);
            wrong("o*1", 1);
            incomplete("o");
        });
    }

    private void howOftenOpened() {
        String often = "(it is opened so often, as long as there is somebody in the line);";
        for (int times = 0; times <= 10; times++) {
            String part = times == 0 ? "o1" : "o1*" + times;
            int due = times == 0 ? 1 : times;
            e.of(TEXT, often, x -> {
                come(x, 10);
                for (int i = 0; i < 10; i++) {
                    x.queue(i, 1);
                }
                e.due("parts of " + part, revel(x, part), 1);
                e.row("inside, in the line", counts(x, 2, 3), due, 10 - due);
            });
            e.of(TEXT, often, x -> {
                come(x, 3);
                x.queue(0, 1);
                x.queue(1, 1);
                x.queue(2, 0);
                e.due("parts of " + part, revel(x, part), 1);
                int inside = due > 2 ? 2 : due;
                e.row("with two in the line", new int[] {x.count(2), x.line(1), x.line(0)}, inside, 2 - inside, 1);
            });
            e.of(TEXT, often, x -> {
                e.due("with nobody in the line: " + part, revel(x, part), 1);
                e.row("no stop", new int[] {x.stopped(0), x.stopped(1)}, NONE, NONE);
            });
        }
    }

    private void masksLoansPayingAndNights() {
        e.of(TEXT, "\"m\" and a guest (it takes a mask);", x -> {
            for (int guest = 0; guest <= 9; guest++) {
                complete("m" + guest, 1);
            }
            wrong("m10", 2);
            wrong("m:", 1);
            wrong("m;", 1);
            incomplete("m");
            come(x, 10);
            revel(x, "m0;m9");
            e.row("masks", new int[] {x.guest(0, 6), x.guest(9, 6), x.count(13)}, 2, 2, 2);
        });
        e.of(TEXT, "\"l\", a guest, \">\", and a guest (the coat is lent);", x -> {
            for (int guest = 0; guest <= 9; guest++) {
                complete("l" + guest + ">" + (9 - guest), 1);
            }
            wrong("l10>0", 2);
            wrong("l0>10", 4);
            wrong("l0>:", 3);
            wrong("l>0", 1);
            wrong("l00", 2);
            incomplete("l");
            incomplete("l0");
            incomplete("l0>");
            come(x, 10);
            revel(x, "l0>9;l1>0");
            e.row("who wears what", new int[] {x.guest(0, 4), x.guest(1, 4), x.guest(9, 4)}, 1, NONE, 0);
        });
        e.of(TEXT, "\"$\" and a guest (it pays its debt);", x -> {
            for (int guest = 0; guest <= 9; guest++) {
                complete("$" + guest, 1);
            }
            wrong("$10", 2);
            wrong("$$", 1);
            incomplete("$");
            x.come(0, 5, 0);
            enter(x, 0, 0);
            x.earn(0, 7);
            revel(x, "$0");
            e.row("purses, chest, debts", counts(x, 4, 6), 1, 6, 0);
        });
        e.of(TEXT, "or \"^\" (the night ends);", x -> {
            complete("^", 1);
            wrong("^0", 1);
            wrong("^*2", 1);
            come(x, 1);
            enter(x, 0, 0);
            revel(x, "^;^");
            e.row("nights, inside", new int[] {x.count(0), x.count(2)}, 2, 0);
        });
    }

    private void numbersWithoutLeadingZero() {
        e.of(TEXT, "numbers without a leading zero.", x -> {
            complete("q0>0", 1);
            wrong("q00>0", 2);
            wrong("q01>0", 2);
            wrong("q0>00", 4);
            wrong("q0>01", 4);
            wrong("o00", 2);
            wrong("o01", 2);
            wrong("o0*00", 3);
            wrong("o0*01", 3);
            wrong("o0*010", 3);
            wrong("m00", 2);
            wrong("m09", 2);
            wrong("l00>1", 2);
            wrong("l0>01", 4);
            wrong("$00", 2);
        });
    }

    /** Behind the text only the given characters are no error. */
    private void only(String text, String next) {
        for (char code = 33; code <= 126; code++) {
            LaceRanks x = new LaceRanks();
            type(x, text);
            x.append(code);
            int due = next.indexOf(code) >= 0 ? text.length() + 1 : text.length();
            e.due("'" + code + "' behind '" + text + "'", x.firstError(), due);
        }
    }

    private void errors() {
        String error = "a character is a syntax error if no carnival as a text, of any length, begins with the "
            + "characters before it and this character.";
        e.of(TEXT, error, x -> {
            for (String ahead : new String[] {"", "^;", "q9>2;", "o0;", "o0*1;", "o2*10;", "m0;", "l0>0;", "$9;"}) {
                only(ahead, "qoml$^");
                only(ahead + "q", DIGITS);
                only(ahead + "q9", ">");
                only(ahead + "q9>", "012");
                only(ahead + "q0>2", ";");
                only(ahead + "o", "012");
                only(ahead + "o0", "*;");
                only(ahead + "o2*", "123456789");
                only(ahead + "o2*1", "0;");
                only(ahead + "o2*2", ";");
                only(ahead + "o2*9", ";");
                only(ahead + "o2*10", ";");
                only(ahead + "m", DIGITS);
                only(ahead + "m9", ";");
                only(ahead + "l", DIGITS);
                only(ahead + "l0", ">");
                only(ahead + "l0>", DIGITS);
                only(ahead + "l0>9", ";");
                only(ahead + "$", DIGITS);
                only(ahead + "$0", ";");
                only(ahead + "^", ";");
            }
        });
        e.of(TEXT, error, x -> {
            wrong("~q0>0", 0);
            wrong("q~>0", 1);
            wrong("q0>0;x;y", 5);
            wrong("^;~;~", 2);
        });
    }

    private void errorsAtTheEnd() {
        String end = "of any length, begins with the characters before it and this character.";
        String nights = "^;^;^;^;^;^;^;^;^;^;^;^;^;^;^;^;^;^;^;^;^;^;^;^;^;^;^;^;";
        e.of(TEXT, end, x -> {
            incomplete(nights + "^;^;");
            incomplete(nights + "m0;q");
            incomplete(nights + "m0;o");
            incomplete(nights + "m0;$");
            incomplete(nights + "^;l0");
            incomplete(nights + "l0>");
            incomplete(nights.substring(2) + "l0>1;m");
            incomplete(nights.substring(2) + "o0*10;");
            complete(nights + "q0>2", 29);
            complete(nights + "o0*9", 29);
            complete(nights.substring(4) + "m0;o0*10", 28);
            wrong(nights + "q0>3", 59);
            wrong(nights + "o0*0", 59);
            wrong(nights + "^;^^", 59);
            wrong("~" + nights + "^;^", 0);
        });
        e.of(TEXT, "The buffer is read from left to right;", x -> {
            type(x, "^;x");
            e.due("the first of them", x.firstError(), 2);
            type(x, "yz");
            e.due("not the last of them", x.firstError(), 2);
            e.due("it is told again", x.firstError(), 2);
        });
    }
}
