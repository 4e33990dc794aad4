/**
 * Sumptuary laws of a carnival: guests, coats that are lent, gates with laws, masks, fines, texts, undo and
 * one snapshot. What each call promises stands in the project's document; README.md says how to use it.
 *
 * All states (the present one, the saved ones, the snapshot) are made once, in the constructor, and are
 * copied into one another afterwards, so that no call makes an object.
 */
public final class LaceRanks {
    public static final int NONE = -1;

    private static final int MOST_GUESTS = 10;
    private static final int MOST_RANK = 4;
    private static final int MOST_LACE = 40;
    private static final int MOST_BROUGHT = 99;
    private static final int MOST_EARNED = 99;
    private static final int MOST_PURSE = 999;
    private static final int MASK_PRICE = 3;
    private static final int GATES = 3;
    private static final int NIGHTS_AHEAD = 6;
    private static final int MOST_SAVED = 6;
    private static final int MOST_SIGNS = 60;
    private static final int FIRST_SIGN = 33;
    private static final int LAST_SIGN = 126;

    private static final int GUEST_NUMBERS = 11;
    private static final int COUNTS = 22;
    private static final int COUNT_OF_SETTING = 15;
    private static final int COUNT_OF_SAVED = 21;
    private static final int GATE_NUMBERS = 4;

    private static final int SETTINGS = 6;
    private static final int ELLS_FOR_ALL = 0;
    private static final int ELLS_A_RANK = 1;
    private static final int ELLS_A_NIGHT = 2;
    private static final int FINE_AN_ELL = 3;
    private static final int MASK_NIGHTS = 4;
    private static final int BARRING_DEBTS = 5;
    private static final int[] SETTING_FIRST = {2, 4, 3, 2, 2, 10};
    private static final int[] SETTING_LEAST = {0, 0, 0, 1, 1, 0};
    private static final int[] SETTING_MOST = {20, 10, 9, 9, 9, 99};

    private static final int POSSIBLE = 0;
    private static final int SAME_GUEST = 1;
    private static final int NOT_OWN_COAT = 2;
    private static final int OTHER_CANNOT_TAKE = 3;
    private static final int IS_INSIDE = 5;
    private static final int IN_LINE = 6;
    private static final int DEBTS_BAR = 7;
    private static final int IS_MASKED = 8;
    private static final int TOO_FEW_RIBBONS = 9;
    private static final int NO_SUCH_GUEST = 10;

    private static final long FIRST_HASH = 3923L;

    private final Carnival now;
    private final Carnival snapshot;
    private final History history;
    private final Text text;
    private boolean hasSnapshot;

    public LaceRanks() {
        now = new Carnival();
        snapshot = new Carnival();
        history = new History();
        text = new Text();
        hasSnapshot = false;
    }

    // ---- guests, coats

    public int come(int rank, int lace, int ribbons) throws IllegalArgumentException, IllegalStateException {
        needArgument(isWithin(rank, 0, MOST_RANK));
        needArgument(isWithin(lace, 0, MOST_LACE));
        needArgument(isWithin(ribbons, 0, MOST_BROUGHT));
        needState(now.guests.size < MOST_GUESTS);
        history.save(now);
        return now.welcome(rank, lace, ribbons);
    }

    public int leave(int guest) throws IndexOutOfBoundsException, IllegalStateException {
        needGuest(guest);
        needState(now.canGo(guest));
        history.save(now);
        return now.letGo(guest);
    }

    public int earn(int guest, int ribbons) throws IndexOutOfBoundsException, IllegalArgumentException {
        needGuest(guest);
        needArgument(isWithin(ribbons, 1, MOST_EARNED));
        history.save(now);
        return now.giveWages(guest, ribbons);
    }

    public int lend(int guest, int other) throws IndexOutOfBoundsException, IllegalStateException {
        needGuest(guest);
        needGuest(other);
        needState(now.guests.reasonNoLoan(guest, other) == POSSIBLE);
        history.save(now);
        now.guests.lendCoat(guest, other);
        return at(now.guests.lace, guest);
    }

    public int giveBack(int guest) throws IndexOutOfBoundsException, IllegalStateException {
        needGuest(guest);
        needState(now.guests.canReturnCoat(guest));
        history.save(now);
        return now.guests.returnCoat(guest);
    }

    // ---- masks, debts, gates, nights

    public int mask(int guest) throws IndexOutOfBoundsException, IllegalStateException {
        needGuest(guest);
        needState(now.reasonNoMask(guest) == POSSIBLE);
        history.save(now);
        now.takeMask(guest);
        return at(now.guests.purse, guest);
    }

    public int pay(int guest) throws IndexOutOfBoundsException {
        needGuest(guest);
        history.save(now);
        now.payDebts(guest);
        return at(now.guests.debts, guest);
    }

    public int queue(int guest, int gate) throws IndexOutOfBoundsException, IllegalStateException {
        needGuest(guest);
        needIndex(isGate(gate));
        needState(now.reasonNoLine(guest) == POSSIBLE);
        history.save(now);
        return now.lines.enter(guest, gate);
    }

    public int open(int gate) throws IndexOutOfBoundsException, IllegalStateException {
        needIndex(isGate(gate));
        needState(at(now.lines.lengths, gate) > 0);
        history.save(now);
        return now.openOnce(gate);
    }

    public int night() {
        history.save(now);
        return now.endNight();
    }

    public int set(int setting, int value) throws IndexOutOfBoundsException, IllegalArgumentException {
        needIndex(isWithin(setting, 0, SETTINGS - 1));
        needArgument(isWithin(value, at(SETTING_LEAST, setting), at(SETTING_MOST, setting)));
        history.save(now);
        int previous = at(now.settings, setting);
        put(now.settings, setting, value);
        return previous;
    }

    // ---- texts

    public int append(int code) throws IllegalArgumentException, IllegalStateException {
        needArgument(isWithin(code, FIRST_SIGN, LAST_SIGN));
        needState(text.length < MOST_SIGNS);
        text.write(code);
        return text.length;
    }

    public int clearBuffer() {
        int previous = text.length;
        text.length = 0;
        return previous;
    }

    public int firstError() {
        return text.firstWrong();
    }

    public int revel() throws IllegalArgumentException {
        needArgument(text.isComplete());
        history.save(now);
        now.noteStop(NONE, NONE);
        int happened = 0;
        for (int i = 0; i < text.length; i++) {
            if (!text.isPartAt(i)) {
                continue;
            }
            int reason = happenPart(i);
            if (reason != POSSIBLE) {
                now.noteStop(happened, reason);
                break;
            }
            happened++;
        }
        text.length = 0;
        return happened;
    }

    public int stopped(int what) throws IllegalArgumentException {
        needArgument(isWithin(what, 0, 1));
        return now.stopNumber(what);
    }

    // ---- undo, the snapshot

    public int undo() throws IllegalStateException {
        needState(history.size > 0);
        history.bringBack(now);
        return history.size;
    }

    public int keep() {
        snapshot.copyState(now);
        hasSnapshot = true;
        return now.nightNumber;
    }

    public int restore() throws IllegalStateException {
        needState(hasSnapshot);
        history.save(now);
        now.copyState(snapshot);
        return now.nightNumber;
    }

    // ---- looks; nothing is changed

    public int guest(int guest, int what) throws IndexOutOfBoundsException, IllegalArgumentException {
        needGuest(guest);
        needArgument(isWithin(what, 0, GUEST_NUMBERS - 1));
        return now.guestNumber(guest, what);
    }

    public int law(int gate, int rank, int night) throws IndexOutOfBoundsException, IllegalArgumentException {
        needIndex(isGate(gate));
        needArgument(isWithin(rank, 0, MOST_RANK));
        needArgument(night >= 0);
        return now.allowedElls(gate, rank, night);
    }

    public int count(int what) throws IllegalArgumentException {
        needArgument(isWithin(what, 0, COUNTS - 1));
        return numberOf(what);
    }

    public int line(int gate) throws IndexOutOfBoundsException {
        needIndex(isGate(gate));
        return at(now.lines.lengths, gate);
    }

    // ---- what would be; nothing is changed

    public int noLoan(int guest, int other) throws IndexOutOfBoundsException {
        needGuest(guest);
        needGuest(other);
        return now.guests.reasonNoLoan(guest, other);
    }

    public int whyNot(int guest, boolean isMask) throws IndexOutOfBoundsException {
        needGuest(guest);
        return isMask ? now.reasonNoMask(guest) : now.reasonNoLine(guest);
    }

    public int ifOpened(int guest, int gate, int what) throws IndexOutOfBoundsException, IllegalArgumentException {
        needGuest(guest);
        needIndex(isGate(gate));
        needArgument(isWithin(what, 0, GATE_NUMBERS - 1));
        return now.gateNumber(guest, gate, what);
    }

    public int bestGate(int guest) throws IndexOutOfBoundsException {
        needGuest(guest);
        return now.gateOfFewestElls(guest);
    }

    public int freeIn(int guest, int gate) throws IndexOutOfBoundsException {
        needGuest(guest);
        needIndex(isGate(gate));
        return now.nightsUntilAllowed(guest, gate);
    }

    public double decentShare() {
        return now.shareOfDecent();
    }

    public long digest() {
        long hash = FIRST_HASH;
        for (int what = 0; what < COUNTS; what++) {
            hash = mix(hash, numberOf(what));
        }
        for (int guest = 0; guest < now.guests.size; guest++) {
            hash = mixGuest(hash, guest);
        }
        for (int gate = 0; gate < GATES; gate++) {
            hash = mixGate(hash, gate);
        }
        hash = mix(hash, now.stopNumber(0));
        hash = mix(hash, now.stopNumber(1));
        hash = mix(hash, bitsOf(now.shareOfDecent()));
        hash = mix(hash, text.length);
        for (int i = 0; i < text.length; i++) {
            hash = mix(hash, text.signAt(i));
        }
        return hash;
    }

    // ---- what the face stands on

    private static boolean isWithin(int value, int least, int most) {
        return value >= least && value <= most;
    }

    private static boolean isGate(int gate) {
        return isWithin(gate, 0, GATES - 1);
    }

    private void needGuest(int guest) {
        if (!now.guests.has(guest)) {
            throw new IndexOutOfBoundsException("there is no such guest");
        }
    }

    private static void needIndex(boolean isThere) {
        if (!isThere) {
            throw new IndexOutOfBoundsException("there is no such gate or setting");
        }
    }

    private static void needArgument(boolean isRight) {
        if (!isRight) {
            throw new IllegalArgumentException("an argument, or the text, is not as it must be");
        }
    }

    private static void needState(boolean isPossible) {
        if (!isPossible) {
            throw new IllegalStateException("this cannot be now");
        }
    }

    // The two through which every row is read and written, so that no index goes unseen.

    private static int at(int[] row, int index) {
        return index >= 0 && index < row.length ? row[index] : 0;
    }

    private static void put(int[] row, int index, int value) {
        if (index >= 0 && index < row.length) {
            row[index] = value;
        }
    }

    private static void copyRow(int[] from, int[] to) {
        System.arraycopy(from, 0, to, 0, Math.min(from.length, to.length));
    }

    private static int sumOf(int[] row, int size) {
        int sum = 0;
        for (int i = 0; i < size; i++) {
            sum += at(row, i);
        }
        return sum;
    }

    private int numberOf(int what) {
        return what == COUNT_OF_SAVED ? history.size : now.countNumber(what);
    }

    private int happenPart(int from) {
        int first = text.digitAt(from + 1);
        int second = text.digitAt(from + 3);
        switch (text.signAt(from)) {
            case 'q':
                return now.tryLine(first, second);
            case 'o':
                int times = text.timesAt(from + 2);
                for (int i = 0; i < times; i++) {
                    now.openOnce(first);
                }
                return POSSIBLE;
            case 'm':
                return now.tryMask(first);
            case 'l':
                return now.tryLoan(first, second);
            case '$':
                return now.tryPaying(first);
            default:
                now.endNight();
                return POSSIBLE;
        }
    }

    private static long mix(long hash, long value) {
        return 31L * hash + value;
    }

    private long mixGuest(long start, int guest) {
        long hash = start;
        for (int what = 0; what < GUEST_NUMBERS; what++) {
            hash = mix(hash, now.guestNumber(guest, what));
        }
        hash = mix(hash, now.reasonNoMask(guest));
        hash = mix(hash, now.reasonNoLine(guest));
        hash = mix(hash, now.gateOfFewestElls(guest));
        for (int gate = 0; gate < GATES; gate++) {
            for (int what = 0; what < GATE_NUMBERS; what++) {
                hash = mix(hash, now.gateNumber(guest, gate, what));
            }
            hash = mix(hash, now.nightsUntilAllowed(guest, gate));
        }
        return hash;
    }

    private long mixGate(long start, int gate) {
        int length = at(now.lines.lengths, gate);
        long hash = mix(start, length);
        for (int rank = 0; rank <= MOST_RANK; rank++) {
            hash = mix(hash, now.allowedElls(gate, rank, now.nightNumber));
        }
        for (int place = 0; place < length; place++) {
            hash = mix(hash, now.lines.standingAt(gate, place));
        }
        return hash;
    }

    // Only for 0.0 to 1.0: the library's own function is not among those that the file may use.
    private static long bitsOf(double share) {
        if (share <= 0.0) {
            return 0L;
        }
        double leading = share;
        long exponent = 1023L;
        for (int i = 0; i < 1022 && leading < 1.0; i++) {
            leading = leading * 2.0;
            exponent--;
        }
        return (exponent << 52) + (long) ((leading - 1.0) * 4503599627370496.0);
    }

    /** The guests with their purses and coats; who wears what follows from who lent to whom. */
    private static final class Guests {
        private final int[] rank = new int[MOST_GUESTS];
        private final int[] purse = new int[MOST_GUESTS];
        private final int[] debts = new int[MOST_GUESTS];
        private final int[] lace = new int[MOST_GUESTS];
        private final int[] lender = new int[MOST_GUESTS];
        private final int[] borrower = new int[MOST_GUESTS];
        private final int[] maskNights = new int[MOST_GUESTS];
        private final int[] inside = new int[MOST_GUESTS];
        private int size;

        private boolean has(int guest) {
            return guest >= 0 && guest < size;
        }

        private int takeIn(int itsRank, int itsLace, int ribbons) {
            int guest = size;
            put(rank, guest, itsRank);
            put(purse, guest, ribbons);
            put(debts, guest, 0);
            put(lace, guest, itsLace);
            put(lender, guest, NONE);
            put(borrower, guest, NONE);
            put(maskNights, guest, 0);
            put(inside, guest, 0);
            size++;
            return guest;
        }

        private void takeOut(int guest) {
            closeGap(rank, guest);
            closeGap(purse, guest);
            closeGap(debts, guest);
            closeGap(lace, guest);
            closeGap(lender, guest);
            closeGap(borrower, guest);
            closeGap(maskNights, guest);
            closeGap(inside, guest);
            size--;
            for (int i = 0; i < size; i++) {
                put(lender, i, numberWithout(guest, at(lender, i)));
                put(borrower, i, numberWithout(guest, at(borrower, i)));
            }
        }

        private void closeGap(int[] row, int gap) {
            for (int i = gap; i + 1 < size; i++) {
                put(row, i, at(row, i + 1));
            }
        }

        private static int numberWithout(int gone, int number) {
            return number > gone ? number - 1 : number;
        }

        private int wornCoat(int guest) {
            int owner = at(lender, guest);
            if (owner != NONE) {
                return owner;
            }
            return at(borrower, guest) == NONE ? guest : NONE;
        }

        private int wornLace(int guest) {
            int coat = wornCoat(guest);
            return coat == NONE ? 0 : at(lace, coat);
        }

        private boolean isIn(int guest) {
            return at(inside, guest) != 0;
        }

        private int reasonNoLoan(int guest, int other) {
            if (guest == other) {
                return SAME_GUEST;
            }
            if (wornCoat(guest) != guest) {
                return NOT_OWN_COAT;
            }
            return at(lender, other) != NONE || isIn(other) ? OTHER_CANNOT_TAKE : POSSIBLE;
        }

        private void lendCoat(int guest, int other) {
            put(borrower, guest, other);
            put(lender, other, guest);
        }

        private boolean canReturnCoat(int guest) {
            int owner = at(lender, guest);
            return owner != NONE && !isIn(guest) && !isIn(owner);
        }

        private int returnCoat(int guest) {
            int owner = at(lender, guest);
            put(lender, guest, NONE);
            put(borrower, owner, NONE);
            return owner;
        }

        private int payFromPurse(int guest, int ribbons) {
            put(purse, guest, at(purse, guest) - ribbons);
            return ribbons;
        }

        private int howManyMasked() {
            int masked = 0;
            for (int i = 0; i < size; i++) {
                masked += at(maskNights, i) > 0 ? 1 : 0;
            }
            return masked;
        }

        private int bitsOfInside() {
            int bits = 0;
            for (int i = 0; i < size; i++) {
                bits |= isIn(i) ? 1 << i : 0;
            }
            return bits;
        }

        private void passNight() {
            for (int i = 0; i < size; i++) {
                put(inside, i, 0);
                put(maskNights, i, Math.max(at(maskNights, i) - 1, 0));
            }
        }

        private void copyGuests(Guests other) {
            copyRow(other.rank, rank);
            copyRow(other.purse, purse);
            copyRow(other.debts, debts);
            copyRow(other.lace, lace);
            copyRow(other.lender, lender);
            copyRow(other.borrower, borrower);
            copyRow(other.maskNights, maskNights);
            copyRow(other.inside, inside);
            size = other.size;
        }
    }

    /** The lines at the gates, one behind another in a single row. */
    private static final class Lines {
        private final int[] places = new int[GATES * MOST_GUESTS];
        private final int[] lengths = new int[GATES];

        private int standingAt(int gate, int place) {
            return at(places, gate * MOST_GUESTS + place);
        }

        private int enter(int guest, int gate) {
            int place = at(lengths, gate);
            put(places, gate * MOST_GUESTS + place, guest);
            put(lengths, gate, place + 1);
            return place;
        }

        private int takeFirst(int gate) {
            int length = at(lengths, gate);
            if (length <= 0) {
                return NONE;
            }
            int first = standingAt(gate, 0);
            for (int place = 0; place + 1 < length; place++) {
                put(places, gate * MOST_GUESTS + place, standingAt(gate, place + 1));
            }
            put(lengths, gate, length - 1);
            return first;
        }

        private int spotOf(int guest) {
            for (int gate = 0; gate < GATES; gate++) {
                int end = gate * MOST_GUESTS + at(lengths, gate);
                for (int spot = gate * MOST_GUESTS; spot < end; spot++) {
                    if (at(places, spot) == guest) {
                        return spot;
                    }
                }
            }
            return NONE;
        }

        private int gateOf(int guest) {
            int spot = spotOf(guest);
            return spot == NONE ? NONE : spot / MOST_GUESTS;
        }

        private int placeOf(int guest) {
            int spot = spotOf(guest);
            return spot == NONE ? NONE : spot % MOST_GUESTS;
        }

        private void renumberWithout(int gone) {
            for (int i = 0; i < places.length; i++) {
                put(places, i, Guests.numberWithout(gone, at(places, i)));
            }
        }

        private void sendAllAway() {
            for (int gate = 0; gate < GATES; gate++) {
                put(lengths, gate, 0);
            }
        }

        private void copyLines(Lines other) {
            copyRow(other.places, places);
            copyRow(other.lengths, lengths);
        }
    }

    /** One state: all but the buffer, the saved states and the snapshot. */
    private static final class Carnival {
        private final Guests guests = new Guests();
        private final Lines lines = new Lines();
        private final int[] settings = new int[SETTINGS];
        private int nightNumber;
        private int chest;
        private int laceChest;
        private int ribbonsTold;
        private int laceTold;
        private int fined;
        private int ellsCut;
        private int stopPart = NONE;
        private int stopReason = NONE;

        private Carnival() {
            copyRow(SETTING_FIRST, settings);
        }

        private int welcome(int rank, int lace, int ribbons) {
            ribbonsTold += ribbons;
            laceTold += lace;
            return guests.takeIn(rank, lace, ribbons);
        }

        private boolean canGo(int guest) {
            return guests.wornCoat(guest) == guest && !guests.isIn(guest) && lines.gateOf(guest) == NONE;
        }

        private int letGo(int guest) {
            int debts = at(guests.debts, guest);
            ribbonsTold -= at(guests.purse, guest);
            laceTold -= at(guests.lace, guest);
            guests.takeOut(guest);
            lines.renumberWithout(guest);
            return debts;
        }

        private int giveWages(int guest, int ribbons) {
            int before = at(guests.purse, guest);
            int purse = Math.min(before + ribbons, MOST_PURSE);
            put(guests.purse, guest, purse);
            ribbonsTold += purse - before;
            return purse;
        }

        private int reasonNoMask(int guest) {
            if (at(guests.maskNights, guest) > 0) {
                return IS_MASKED;
            }
            return at(guests.purse, guest) < MASK_PRICE ? TOO_FEW_RIBBONS : POSSIBLE;
        }

        private void takeMask(int guest) {
            chest += guests.payFromPurse(guest, MASK_PRICE);
            put(guests.maskNights, guest, at(settings, MASK_NIGHTS));
        }

        private void payDebts(int guest) {
            int debts = at(guests.debts, guest);
            int paid = Math.min(debts, at(guests.purse, guest));
            chest += guests.payFromPurse(guest, paid);
            put(guests.debts, guest, debts - paid);
        }

        private int reasonNoLine(int guest) {
            if (guests.isIn(guest)) {
                return IS_INSIDE;
            }
            if (lines.gateOf(guest) != NONE) {
                return IN_LINE;
            }
            return at(guests.debts, guest) > at(settings, BARRING_DEBTS) ? DEBTS_BAR : POSSIBLE;
        }

        private int allowedElls(int gate, int rank, int night) {
            int ells = at(settings, ELLS_FOR_ALL) + at(settings, ELLS_A_RANK) * rank;
            if (gate == 1) {
                return Math.max(ells - 2, 0);
            }
            return gate == 2 ? ells + night % 3 * at(settings, ELLS_A_NIGHT) : ells;
        }

        private boolean passesMasked(int guest) {
            return guests.wornCoat(guest) != NONE && at(guests.maskNights, guest) > 0 && at(guests.purse, guest) > 0;
        }

        private int ellsTooMuch(int guest, int gate) {
            if (passesMasked(guest)) {
                return 0;
            }
            return Math.max(guests.wornLace(guest) - allowedElls(gate, at(guests.rank, guest), nightNumber), 0);
        }

        private int paidByGuest(int guest, int fine) {
            return passesMasked(guest) ? 1 : Math.min(fine, at(guests.purse, guest));
        }

        private int leftOfFine(int guest, int fine) {
            return Math.max(fine - at(guests.purse, guest), 0);
        }

        private int paidByLender(int guest, int left) {
            int owner = at(guests.lender, guest);
            return owner == NONE ? 0 : Math.min(left / 2, at(guests.purse, owner));
        }

        private int gateNumber(int guest, int gate, int what) {
            int ells = ellsTooMuch(guest, gate);
            int fine = ells * at(settings, FINE_AN_ELL);
            int left = leftOfFine(guest, fine);
            switch (what) {
                case 0:
                    return ells;
                case 1:
                    return fine;
                case 2:
                    return paidByGuest(guest, fine);
                default:
                    return at(guests.debts, guest) + left - paidByLender(guest, left);
            }
        }

        private int openOnce(int gate) {
            int guest = lines.takeFirst(gate);
            if (!guests.has(guest)) {
                return 0;
            }
            int ells = ellsTooMuch(guest, gate);
            int fine = ells * at(settings, FINE_AN_ELL);
            // What is left rests on the purse as it was: it is told before a ribbon is paid.
            int left = leftOfFine(guest, fine);
            int byLender = paidByLender(guest, left);
            chest += guests.payFromPurse(guest, paidByGuest(guest, fine));
            if (byLender > 0) {
                chest += guests.payFromPurse(at(guests.lender, guest), byLender);
            }
            put(guests.debts, guest, at(guests.debts, guest) + left - byLender);
            if (ells > 0) {
                cutLace(guests.wornCoat(guest), ells);
            }
            put(guests.inside, guest, 1);
            return ells;
        }

        private void cutLace(int coat, int ells) {
            put(guests.lace, coat, at(guests.lace, coat) - ells);
            laceChest += ells;
            ellsCut += ells;
            fined++;
        }

        private int endNight() {
            int wereInside = sumOf(guests.inside, guests.size);
            guests.passNight();
            lines.sendAllAway();
            nightNumber++;
            return wereInside;
        }

        private int tryLine(int guest, int gate) {
            int reason = guests.has(guest) ? reasonNoLine(guest) : NO_SUCH_GUEST;
            if (reason == POSSIBLE) {
                lines.enter(guest, gate);
            }
            return reason;
        }

        private int tryMask(int guest) {
            int reason = guests.has(guest) ? reasonNoMask(guest) : NO_SUCH_GUEST;
            if (reason == POSSIBLE) {
                takeMask(guest);
            }
            return reason;
        }

        private int tryLoan(int guest, int other) {
            if (!guests.has(guest) || !guests.has(other)) {
                return NO_SUCH_GUEST;
            }
            int reason = guests.reasonNoLoan(guest, other);
            if (reason == POSSIBLE) {
                guests.lendCoat(guest, other);
            }
            return reason;
        }

        private int tryPaying(int guest) {
            if (!guests.has(guest)) {
                return NO_SUCH_GUEST;
            }
            payDebts(guest);
            return POSSIBLE;
        }

        private void noteStop(int part, int reason) {
            stopPart = part;
            stopReason = reason;
        }

        private int stopNumber(int what) {
            return what == 0 ? stopPart : stopReason;
        }

        private int gateOfFewestElls(int guest) {
            int best = 0;
            for (int gate = 1; gate < GATES; gate++) {
                int more = ellsTooMuch(guest, gate) - ellsTooMuch(guest, best);
                boolean isShorter = at(lines.lengths, gate) < at(lines.lengths, best);
                if (more < 0 || more == 0 && isShorter) {
                    best = gate;
                }
            }
            return best;
        }

        private boolean allowsLace(int guest, int gate, int night) {
            return guests.wornLace(guest) <= allowedElls(gate, at(guests.rank, guest), night);
        }

        private int nightsUntilAllowed(int guest, int gate) {
            for (int nights = 0; nights <= NIGHTS_AHEAD; nights++) {
                if (allowsLace(guest, gate, nightNumber + nights)) {
                    return nights;
                }
            }
            return NONE;
        }

        private double shareOfDecent() {
            if (guests.size <= 0) {
                return 1.0;
            }
            int decent = 0;
            for (int guest = 0; guest < guests.size; guest++) {
                decent += allowsLace(guest, 0, nightNumber) ? 1 : 0;
            }
            return (double) decent / (double) guests.size;
        }

        private int guestNumber(int guest, int what) {
            switch (what) {
                case 0:
                    return at(guests.rank, guest);
                case 1:
                    return at(guests.purse, guest);
                case 2:
                    return at(guests.debts, guest);
                case 3:
                    return at(guests.lace, guest);
                case 4:
                    return guests.wornCoat(guest);
                case 5:
                    return guests.wornLace(guest);
                case 6:
                    return at(guests.maskNights, guest);
                case 7:
                    return at(guests.inside, guest);
                case 8:
                    return lines.gateOf(guest);
                case 9:
                    return lines.placeOf(guest);
                default:
                    return at(guests.borrower, guest);
            }
        }

        private int countNumber(int what) {
            switch (what) {
                case 0:
                    return nightNumber;
                case 1:
                    return guests.size;
                case 2:
                    return sumOf(guests.inside, guests.size);
                case 3:
                    return sumOf(lines.lengths, GATES);
                case 4:
                    return sumOf(guests.purse, guests.size);
                case 5:
                    return chest;
                case 6:
                    return sumOf(guests.debts, guests.size);
                case 7:
                    return ribbonsTold;
                case 8:
                    return sumOf(guests.lace, guests.size);
                case 9:
                    return laceChest;
                case 10:
                    return laceTold;
                case 11:
                    return fined;
                case 12:
                    return ellsCut;
                case 13:
                    return guests.howManyMasked();
                case 14:
                    return guests.bitsOfInside();
                default:
                    return at(settings, what - COUNT_OF_SETTING);
            }
        }

        private void copyState(Carnival other) {
            guests.copyGuests(other.guests);
            lines.copyLines(other.lines);
            copyRow(other.settings, settings);
            nightNumber = other.nightNumber;
            chest = other.chest;
            laceChest = other.laceChest;
            ribbonsTold = other.ribbonsTold;
            laceTold = other.laceTold;
            fined = other.fined;
            ellsCut = other.ellsCut;
            stopPart = other.stopPart;
            stopReason = other.stopReason;
        }
    }

    /** The saved states in a ring: the place of the oldest one is used again when it is dropped. */
    private static final class History {
        private final Carnival[] ring = new Carnival[MOST_SAVED];
        private int oldest;
        private int size;

        private History() {
            for (int i = 0; i < ring.length; i++) {
                ring[i] = new Carnival();
            }
        }

        private void save(Carnival state) {
            if (size == MOST_SAVED) {
                oldest = (oldest + 1) % MOST_SAVED;
                size--;
            }
            Carnival free = stateAt(size);
            if (free != null) {
                free.copyState(state);
                size++;
            }
        }

        private void bringBack(Carnival state) {
            Carnival latest = stateAt(size - 1);
            if (latest != null) {
                state.copyState(latest);
                size--;
            }
        }

        private Carnival stateAt(int age) {
            int index = (oldest + age) % MOST_SAVED;
            return index >= 0 && index < ring.length ? ring[index] : null;
        }
    }

    /** The buffer, and what a carnival as a text looks like. */
    private static final class Text {
        private static final int WRONG = 0;
        private static final int BEGIN = 1;
        private static final int QUEUE_GUEST = 2;
        private static final int QUEUE_TO = 3;
        private static final int QUEUE_GATE = 4;
        private static final int OPEN_GATE = 5;
        private static final int OPEN_OR_MORE = 6;
        private static final int OPEN_TIMES = 7;
        private static final int OPEN_ONE_OR_TEN = 8;
        private static final int LOAN_GUEST = 9;
        private static final int LOAN_TO = 10;
        private static final int LAST_GUEST = 11;
        private static final int END = 12;

        private final int[] signs = new int[MOST_SIGNS];
        private int length;

        private void write(int code) {
            put(signs, length, code);
            length++;
        }

        private int signAt(int index) {
            return index < length ? at(signs, index) : 0;
        }

        private int digitAt(int index) {
            int sign = signAt(index);
            return isWithin(sign, '0', '9') ? sign - '0' : NONE;
        }

        private boolean isPartAt(int index) {
            return index == 0 || signAt(index - 1) == ';';
        }

        private int timesAt(int index) {
            if (signAt(index) != '*') {
                return 1;
            }
            // Behind the first digit only the 0 of 10 can stand in a complete text.
            return signAt(index + 2) == '0' ? 10 : digitAt(index + 1);
        }

        private int firstWrong() {
            int expected = BEGIN;
            for (int i = 0; i < length; i++) {
                expected = expectedBehind(expected, signAt(i));
                if (expected == WRONG) {
                    return i;
                }
            }
            return length;
        }

        private boolean isComplete() {
            int expected = BEGIN;
            for (int i = 0; i < length; i++) {
                expected = expectedBehind(expected, signAt(i));
            }
            return expected == END || expected == OPEN_OR_MORE || expected == OPEN_ONE_OR_TEN;
        }

        private static int expectedBehind(int expected, int sign) {
            boolean isGuest = isWithin(sign, '0', '9');
            boolean isGateSign = isWithin(sign, '0', '2');
            switch (expected) {
                case BEGIN:
                    return expectedInPart(sign);
                case QUEUE_GUEST:
                    return isGuest ? QUEUE_TO : WRONG;
                case QUEUE_TO:
                    return sign == '>' ? QUEUE_GATE : WRONG;
                case QUEUE_GATE:
                    return isGateSign ? END : WRONG;
                case OPEN_GATE:
                    return isGateSign ? OPEN_OR_MORE : WRONG;
                case OPEN_OR_MORE:
                    return sign == '*' ? OPEN_TIMES : expectedBehindPart(sign);
                case OPEN_TIMES:
                    return expectedBehindTimes(sign);
                case OPEN_ONE_OR_TEN:
                    return sign == '0' ? END : expectedBehindPart(sign);
                case LOAN_GUEST:
                    return isGuest ? LOAN_TO : WRONG;
                case LOAN_TO:
                    return sign == '>' ? LAST_GUEST : WRONG;
                case LAST_GUEST:
                    return isGuest ? END : WRONG;
                case END:
                    return expectedBehindPart(sign);
                default:
                    return WRONG;
            }
        }

        private static int expectedInPart(int sign) {
            switch (sign) {
                case 'q':
                    return QUEUE_GUEST;
                case 'o':
                    return OPEN_GATE;
                case 'l':
                    return LOAN_GUEST;
                case 'm':
                case '$':
                    return LAST_GUEST;
                case '^':
                    return END;
                default:
                    return WRONG;
            }
        }

        private static int expectedBehindTimes(int sign) {
            if (sign == '1') {
                return OPEN_ONE_OR_TEN;
            }
            return isWithin(sign, '2', '9') ? END : WRONG;
        }

        private static int expectedBehindPart(int sign) {
            return sign == ';' ? BEGIN : WRONG;
        }
    }
}
