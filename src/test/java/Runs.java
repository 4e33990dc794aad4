/** What tests do with an object again and again: guests who come, texts, rows of numbers. */
class Runs {
    static final int NONE = LaceRanks.NONE;
    static final int LEAST = Integer.MIN_VALUE;
    static final int MOST = Integer.MAX_VALUE;

    static int[] counts(LaceRanks x, int from, int to) {
        int[] all = new int[to - from + 1];
        for (int i = 0; i < all.length; i++) {
            all[i] = x.count(from + i);
        }
        return all;
    }

    static int[] numbers(LaceRanks x, int guest) {
        int[] all = new int[11];
        for (int i = 0; i < all.length; i++) {
            all[i] = x.guest(guest, i);
        }
        return all;
    }

    static int[] brought(LaceRanks x, int guest, int gate) {
        return new int[] {
            x.ifOpened(guest, gate, 0), x.ifOpened(guest, gate, 1), x.ifOpened(guest, gate, 2),
            x.ifOpened(guest, gate, 3)};
    }

    static void type(LaceRanks x, String text) {
        for (int i = 0; i < text.length(); i++) {
            x.append(text.charAt(i));
        }
    }

    static int revel(LaceRanks x, String text) {
        type(x, text);
        return x.revel();
    }

    static int firstError(String text) {
        LaceRanks x = new LaceRanks();
        type(x, text);
        return x.firstError();
    }

    static LaceRanks withGuests(int guests) {
        LaceRanks x = new LaceRanks();
        come(x, guests);
        return x;
    }

    static void come(LaceRanks x, int guests) {
        for (int i = 0; i < guests; i++) {
            x.come(i % 5, 10, 20);
        }
    }

    /** The guest stands in the line, and the gate is opened until nobody is left of it; the ells of the last one. */
    static int enter(LaceRanks x, int guest, int gate) {
        x.queue(guest, gate);
        int ells = 0;
        while (x.line(gate) > 0) {
            ells = x.open(gate);
        }
        return ells;
    }

    /** The hash of the document, told through the other calls of the face; some 350 of them for 10 guests. */
    static long digestOf(LaceRanks x, String buffer) {
        long[] hash = {3923};
        int[] counts = counts(x, 0, 21);
        for (int v : counts) {
            add(hash, v);
        }
        int[][] lines = new int[3][10];
        for (int g = 0; g < counts[1]; g++) {
            addGuest(hash, x, g, lines);
        }
        for (int gate = 0; gate < 3; gate++) {
            addGate(hash, x, gate, lines[gate], counts[0]);
        }
        add(hash, x.stopped(0));
        add(hash, x.stopped(1));
        add(hash, Double.doubleToLongBits(x.decentShare()));
        add(hash, buffer.length());
        for (int i = 0; i < buffer.length(); i++) {
            add(hash, buffer.charAt(i));
        }
        return hash[0];
    }

    private static void addGuest(long[] hash, LaceRanks x, int g, int[][] lines) {
        int[] numbers = numbers(x, g);
        for (int v : numbers) {
            add(hash, v);
        }
        if (numbers[8] >= 0) {
            lines[numbers[8]][numbers[9]] = g;
        }
        add(hash, x.whyNot(g, true));
        add(hash, x.whyNot(g, false));
        add(hash, x.bestGate(g));
        for (int gate = 0; gate < 3; gate++) {
            for (int v : brought(x, g, gate)) {
                add(hash, v);
            }
            add(hash, x.freeIn(g, gate));
        }
    }

    private static void addGate(long[] hash, LaceRanks x, int gate, int[] line, int night) {
        int length = x.line(gate);
        add(hash, length);
        for (int rank = 0; rank < 5; rank++) {
            add(hash, x.law(gate, rank, night));
        }
        for (int place = 0; place < length; place++) {
            add(hash, line[place]);
        }
    }

    private static void add(long[] hash, long value) {
        hash[0] = 31 * hash[0] + value;
    }
}
