import java.util.ArrayList;
import java.util.Arrays;
import java.util.List;
import java.util.function.Consumer;

/** Tests by sentence: each one quotes the sentence of the document that it is of, and has objects of its own. */
final class Edges {
    /** A call that is due to be refused. */
    interface Call {
        Object on(LaceRanks x);
    }

    /** A call with a guest, who may not be there. */
    interface GuestCall {
        Object on(LaceRanks x, int guest);
    }

    static final String INDEX = "throws.IndexOutOfBoundsException";
    static final String ARGUMENT = "throws.IllegalArgumentException";
    static final String STATE = "throws.IllegalStateException";

    private final Check check;
    private final List<String[]> quotes = new ArrayList<>();
    private String where = "";

    Edges(Check check) {
        this.check = check;
    }

    /** A section's name, or a promise's number, and words that stand there. */
    void of(String section, String sentence, Consumer<LaceRanks> test) {
        quotes.add(new String[] {section, sentence});
        where = section + ", \"" + sentence + "\": ";
        int before = check.answers();
        try {
            test.accept(new LaceRanks());
        } catch (RuntimeException thrown) {
            // One sentence that does not hold shall not hide the others.
            due("a call that is due to answer", thrown, "no exception");
        }
        if (check.answers() == before) {
            due("answers are looked at", false, true);
        }
    }

    List<String[]> quotes() {
        return quotes;
    }

    void due(String what, Object got, Object want) {
        check.due(where + what, got, want);
    }

    void row(String what, int[] got, int... want) {
        due(what, Arrays.toString(got), Arrays.toString(want));
    }

    /** A call that goes on from here, or throws. */
    void told(String what, Check.Call call, Object want) {
        due(what, Check.told(call), want);
    }

    /**
     * A refused call: it throws what is due, and behind it the object is the same as its twin, which had no such call.
     * Once as it is, and once more with a snapshot, six saved states, a stop and a buffer that could lose something.
     */
    void refused(String what, Consumer<LaceRanks> before, Call call, String want) {
        refusedAsItIs(what, before, call, want);
        refusedAsItIs(what + ", with all that could change", before.andThen(Edges::clutter), call, want);
    }

    /** With no guest, one, two and 10: the numbers just outside, and far outside; the last one inside is there. */
    void noSuchGuest(String section, String sentence, GuestCall call) {
        of(section, sentence, x -> {
            for (int guests : new int[] {0, 1, 2, 10}) {
                for (int wrong : new int[] {-1, guests, guests + 1, 10, Integer.MIN_VALUE, Integer.MAX_VALUE}) {
                    refused(wrong + " of " + guests, y -> Runs.come(y, guests), y -> call.on(y, wrong), INDEX);
                }
                LaceRanks last = Runs.withGuests(guests);
                boolean isRefused = Check.told(() -> call.on(last, guests - 1)).equals(INDEX);
                due("the last one of " + guests, isRefused, guests == 0);
            }
        });
    }

    /** Each of 10 guests, from the first to the last, is there for this call. */
    void everyGuest(String section, String argument, GuestCall call) {
        of(section, "`" + argument + "`: its number", x -> {
            for (int i = 0; i < 10; i++) {
                int guest = i;
                LaceRanks all = Runs.withGuests(10);
                due("guest " + guest, Check.told(() -> call.on(all, guest)).equals(INDEX), false);
            }
        });
    }

    void refusedAsItIs(String what, Consumer<LaceRanks> before, Call call, String want) {
        LaceRanks x = new LaceRanks();
        LaceRanks twin = new LaceRanks();
        before.accept(x);
        before.accept(twin);
        due(what, Check.told(() -> call.on(x)), want);
        due(what + ": the state behind it", all(x), all(twin));
    }

    /** A snapshot, six saved states that differ, a stop and a buffer; of the carnival itself nothing is changed. */
    static void clutter(LaceRanks x) {
        int ells = x.count(17);
        x.clearBuffer();
        for (int value = 8; value > 4; value--) {
            x.set(2, value);
        }
        x.keep();
        Runs.revel(x, "l9>9");
        x.set(2, ells);
        Runs.type(x, "q0>1;o");
    }

    /** Everything that an object tells of itself, of its saved states and of its snapshot; it is used up by that. */
    private static String all(LaceRanks x) {
        StringBuilder told = new StringBuilder();
        told.append(x.digest()).append(' ').append(x.firstError());
        for (int i = 0; i < 7; i++) {
            told.append(' ').append(Check.told(x::undo)).append(' ').append(x.digest());
        }
        told.append(' ').append(Check.told(x::restore)).append(' ').append(x.digest());
        return told.append(' ').append(x.clearBuffer()).toString();
    }
}
