import java.util.ArrayDeque;
import java.util.ArrayList;
import java.util.Deque;
import java.util.HashMap;
import java.util.List;
import java.util.Map;
import java.util.regex.Matcher;
import java.util.regex.Pattern;

/**
 * The document once more, written apart from the class: with objects, library lists and a regular expression.
 * ModelTest lets both live through the same calls.
 */
final class Model {
    static final class Person {
        int rank;
        int purse;
        int debts;
        int lace;
        int maskNights;
        boolean inside;
        Person wears;
    }

    static final class State {
        List<Person> people = new ArrayList<>();
        List<List<Person>> lines = List.of(new ArrayList<>(), new ArrayList<>(), new ArrayList<>());
        int[] settings = {2, 4, 3, 2, 2, 10};
        int night;
        int chest;
        int laceChest;
        int came;
        int earned;
        int went;
        int laceCame;
        int laceWent;
        int fined;
        int cut;
        int[] stop = {-1, -1};

        State copy() {
            State c = new State();
            Map<Person, Person> twin = new HashMap<>();
            for (Person p : people) {
                Person q = new Person();
                q.rank = p.rank;
                q.purse = p.purse;
                q.debts = p.debts;
                q.lace = p.lace;
                q.maskNights = p.maskNights;
                q.inside = p.inside;
                twin.put(p, q);
                c.people.add(q);
            }
            for (Person p : people) {
                twin.get(p).wears = p.wears == null ? null : twin.get(p.wears);
            }
            for (int g = 0; g < 3; g++) {
                for (Person p : lines.get(g)) {
                    c.lines.get(g).add(twin.get(p));
                }
            }
            c.settings = settings.clone();
            c.night = night;
            c.chest = chest;
            c.laceChest = laceChest;
            c.came = came;
            c.earned = earned;
            c.went = went;
            c.laceCame = laceCame;
            c.laceWent = laceWent;
            c.fined = fined;
            c.cut = cut;
            c.stop = stop.clone();
            return c;
        }
    }

    private static final String PART =
        "(q[0-9]>[0-2]|o[0-2](\\*(10|[1-9]))?|m[0-9]|l[0-9]>[0-9]|\\$[0-9]|\\^)";
    private static final Pattern WHOLE = Pattern.compile(PART + "(;" + PART + ")*");
    private static final int[][] BOUNDS = {{0, 20}, {0, 10}, {0, 9}, {1, 9}, {1, 9}, {0, 99}};

    State s = new State();
    State snapshot;
    final Deque<State> saved = new ArrayDeque<>();
    String buffer = "";

    private static void index(boolean ok) {
        if (!ok) {
            throw new IndexOutOfBoundsException();
        }
    }

    private static void argument(boolean ok) {
        if (!ok) {
            throw new IllegalArgumentException();
        }
    }

    private static void state(boolean ok) {
        if (!ok) {
            throw new IllegalStateException();
        }
    }

    private Person person(int g) {
        index(g >= 0 && g < s.people.size());
        return s.people.get(g);
    }

    private void save() {
        saved.addLast(s.copy());
        if (saved.size() > 6) {
            saved.removeFirst();
        }
    }

    private Person borrowerOf(Person owner) {
        for (Person p : s.people) {
            if (p != owner && p.wears == owner) {
                return p;
            }
        }
        return null;
    }

    private List<Person> lineOf(Person p) {
        for (List<Person> l : s.lines) {
            if (l.contains(p)) {
                return l;
            }
        }
        return null;
    }

    private int gateOf(Person p) {
        for (int gate = 0; gate < 3; gate++) {
            if (s.lines.get(gate).contains(p)) {
                return gate;
            }
        }
        return -1;
    }

    private static boolean wearsLent(Person p) {
        return p.wears != null && p.wears != p;
    }

    int come(int rank, int lace, int ribbons) {
        argument(rank >= 0 && rank <= 4 && lace >= 0 && lace <= 40 && ribbons >= 0 && ribbons <= 99);
        state(s.people.size() < 10);
        save();
        Person p = new Person();
        p.rank = rank;
        p.lace = lace;
        p.purse = ribbons;
        p.wears = p;
        s.people.add(p);
        s.came += ribbons;
        s.laceCame += lace;
        return s.people.size() - 1;
    }

    int leave(int g) {
        Person p = person(g);
        state(borrowerOf(p) == null && !wearsLent(p) && !p.inside && lineOf(p) == null);
        save();
        s.people.remove(p);
        s.went += p.purse;
        s.laceWent += p.lace;
        return p.debts;
    }

    int earn(int g, int ribbons) {
        Person p = person(g);
        argument(ribbons >= 1 && ribbons <= 99);
        save();
        while (ribbons > 0 && p.purse < 999) {
            p.purse++;
            s.earned++;
            ribbons--;
        }
        return p.purse;
    }

    int noLoan(int g, int o) {
        Person p = person(g);
        Person q = person(o);
        if (p == q) {
            return 1;
        }
        if (p.wears != p) {
            return 2;
        }
        return wearsLent(q) || q.inside ? 3 : 0;
    }

    private void give(Person p, Person q) {
        p.wears = null;
        q.wears = p;
    }

    int lend(int g, int o) {
        state(noLoan(g, o) == 0);
        save();
        give(person(g), person(o));
        return person(g).lace;
    }

    int giveBack(int g) {
        Person p = person(g);
        state(wearsLent(p) && !p.inside && !p.wears.inside);
        save();
        Person owner = p.wears;
        p.wears = null;
        if (owner.wears == null) {
            owner.wears = owner;
        }
        if (borrowerOf(p) == null) {
            p.wears = p;
        }
        return s.people.indexOf(owner);
    }

    int whyNot(int g, boolean isMask) {
        Person p = person(g);
        if (isMask) {
            return p.maskNights > 0 ? 8 : p.purse < 3 ? 9 : 0;
        }
        return p.inside ? 5 : lineOf(p) != null ? 6 : p.debts > s.settings[5] ? 7 : 0;
    }

    private void doMask(Person p) {
        p.purse -= 3;
        s.chest += 3;
        p.maskNights = s.settings[4];
    }

    int mask(int g) {
        state(whyNot(g, true) == 0);
        save();
        doMask(person(g));
        return person(g).purse;
    }

    private void doPay(Person p) {
        while (p.debts > 0 && p.purse > 0) {
            p.debts--;
            p.purse--;
            s.chest++;
        }
    }

    int pay(int g) {
        person(g);
        save();
        doPay(person(g));
        return person(g).debts;
    }

    int queue(int g, int gate) {
        Person p = person(g);
        index(gate >= 0 && gate <= 2);
        state(whyNot(g, false) == 0);
        save();
        s.lines.get(gate).add(p);
        return s.lines.get(gate).size() - 1;
    }

    /** What a gate brings: ells, fine, what the guest pays, its debts then, what the lender pays. */
    private int[] brought(Person p, int gate) {
        int[] r = {0, 0, 0, p.debts, 0};
        if (p.wears == null) {
            return r;
        }
        if (p.maskNights >= 1 && p.purse >= 1) {
            r[2] = 1;
            return r;
        }
        int over = p.wears.lace - law(gate, p.rank, s.night);
        if (over <= 0) {
            return r;
        }
        r[0] = over;
        r[1] = over * s.settings[3];
        r[2] = p.purse < r[1] ? p.purse : r[1];
        int left = r[1] - r[2];
        if (p.wears != p) {
            r[4] = (left - left % 2) / 2;
            if (r[4] > p.wears.purse) {
                r[4] = p.wears.purse;
            }
        }
        r[3] += left - r[4];
        return r;
    }

    private int doOpen(int gate) {
        if (s.lines.get(gate).isEmpty()) {
            return 0;
        }
        Person p = s.lines.get(gate).remove(0);
        int[] r = brought(p, gate);
        p.purse -= r[2];
        p.debts = r[3];
        s.chest += r[2] + r[4];
        if (r[0] > 0) {
            p.wears.purse -= r[4];
            p.wears.lace -= r[0];
            s.laceChest += r[0];
            s.cut += r[0];
            s.fined++;
        }
        p.inside = true;
        return r[0];
    }

    int open(int gate) {
        index(gate >= 0 && gate <= 2);
        state(!s.lines.get(gate).isEmpty());
        save();
        return doOpen(gate);
    }

    private int doNight() {
        int inside = 0;
        for (Person p : s.people) {
            inside += p.inside ? 1 : 0;
            p.inside = false;
            if (p.maskNights > 0) {
                p.maskNights--;
            }
        }
        for (List<Person> l : s.lines) {
            l.clear();
        }
        s.night++;
        return inside;
    }

    int night() {
        save();
        return doNight();
    }

    int set(int setting, int value) {
        index(setting >= 0 && setting <= 5);
        argument(value >= BOUNDS[setting][0] && value <= BOUNDS[setting][1]);
        save();
        int old = s.settings[setting];
        s.settings[setting] = value;
        return old;
    }

    int append(int code) {
        argument(code >= 33 && code <= 126);
        state(buffer.length() < 60);
        buffer += (char) code;
        return buffer.length();
    }

    int clearBuffer() {
        int length = buffer.length();
        buffer = "";
        return length;
    }

    int firstError() {
        for (int i = 1; i <= buffer.length(); i++) {
            Matcher m = WHOLE.matcher(buffer.substring(0, i));
            if (!m.matches() && !m.hitEnd()) {
                return i - 1;
            }
        }
        return buffer.length();
    }

    private int happen(String part) {
        String[] n = part.substring(1).split("[>*]");
        int a = n[0].isEmpty() ? 0 : Integer.parseInt(n[0]);
        int b = n.length > 1 ? Integer.parseInt(n[1]) : 1;
        char kind = part.charAt(0);
        int size = s.people.size();
        if ((kind == 'q' || kind == 'm' || kind == '$' || kind == 'l') && a >= size || kind == 'l' && b >= size) {
            return 10;
        }
        int why = kind == 'q' ? whyNot(a, false) : kind == 'm' ? whyNot(a, true) : kind == 'l' ? noLoan(a, b) : 0;
        if (why != 0) {
            return why;
        }
        if (kind == 'q') {
            s.lines.get(b).add(person(a));
        } else if (kind == 'm') {
            doMask(person(a));
        } else if (kind == 'l') {
            give(person(a), person(b));
        } else if (kind == '$') {
            doPay(person(a));
        } else if (kind == 'o') {
            while (b > 0 && !s.lines.get(a).isEmpty()) {
                doOpen(a);
                b--;
            }
        } else {
            doNight();
        }
        return 0;
    }

    int revel() {
        argument(WHOLE.matcher(buffer).matches());
        save();
        String[] parts = buffer.split(";");
        buffer = "";
        s.stop = new int[] {-1, -1};
        for (int i = 0; i < parts.length; i++) {
            int why = happen(parts[i]);
            if (why != 0) {
                s.stop = new int[] {i, why};
                return i;
            }
        }
        return parts.length;
    }

    int stopped(int what) {
        argument(what == 0 || what == 1);
        return s.stop[what];
    }

    int undo() {
        state(!saved.isEmpty());
        s = saved.removeLast();
        return saved.size();
    }

    int keep() {
        snapshot = s.copy();
        return s.night;
    }

    int restore() {
        state(snapshot != null);
        save();
        s = snapshot.copy();
        return s.night;
    }

    int guest(int g, int what) {
        Person p = person(g);
        argument(what >= 0 && what <= 10);
        List<Person> l = lineOf(p);
        int[] all = {
            p.rank, p.purse, p.debts, p.lace, s.people.indexOf(p.wears), p.wears == null ? 0 : p.wears.lace,
            p.maskNights, p.inside ? 1 : 0, gateOf(p), l == null ? -1 : l.indexOf(p), s.people.indexOf(borrowerOf(p))};
        return all[what];
    }

    int law(int gate, int rank, int night) {
        index(gate >= 0 && gate <= 2);
        argument(rank >= 0 && rank <= 4 && night >= 0);
        int ells = s.settings[0];
        for (int r = 0; r < rank; r++) {
            ells += s.settings[1];
        }
        if (gate == 1) {
            return ells < 2 ? 0 : ells - 2;
        }
        return gate == 0 ? ells : ells + (night - night / 3 * 3) * s.settings[2];
    }

    int count(int what) {
        argument(what >= 0 && what <= 21);
        if (what >= 15 && what <= 20) {
            return s.settings[what - 15];
        }
        int inside = 0;
        int purses = 0;
        int debts = 0;
        int lace = 0;
        int masked = 0;
        int bits = 0;
        for (int i = 0; i < s.people.size(); i++) {
            Person p = s.people.get(i);
            inside += p.inside ? 1 : 0;
            bits += p.inside ? (int) Math.pow(2, i) : 0;
            purses += p.purse;
            debts += p.debts;
            lace += p.lace;
            masked += p.maskNights >= 1 ? 1 : 0;
        }
        int lined = s.lines.get(0).size() + s.lines.get(1).size() + s.lines.get(2).size();
        int[] all = {
            s.night, s.people.size(), inside, lined, purses, s.chest, debts, s.came + s.earned - s.went, lace,
            s.laceChest, s.laceCame - s.laceWent, s.fined, s.cut, masked, bits, 0, 0, 0, 0, 0, 0, saved.size()};
        return all[what];
    }

    int line(int gate) {
        index(gate >= 0 && gate <= 2);
        return s.lines.get(gate).size();
    }

    int ifOpened(int g, int gate, int what) {
        Person p = person(g);
        index(gate >= 0 && gate <= 2);
        argument(what >= 0 && what <= 3);
        return brought(p, gate)[what];
    }

    int bestGate(int g) {
        int best = 0;
        long least = Long.MAX_VALUE;
        for (int gate = 0; gate < 3; gate++) {
            long order = ifOpened(g, gate, 0) * 1000L + line(gate) * 10L + gate;
            if (order < least) {
                least = order;
                best = gate;
            }
        }
        return best;
    }

    int freeIn(int g, int gate) {
        Person p = person(g);
        index(gate >= 0 && gate <= 2);
        for (int k = 0; k < 6; k++) {
            if (p.wears == null || p.wears.lace <= law(gate, p.rank, s.night + k)) {
                return k;
            }
        }
        return -1;
    }

    double decentShare() {
        double decent = 0;
        for (Person p : s.people) {
            decent += p.wears == null || p.wears.lace <= law(0, p.rank, s.night) ? 1 : 0;
        }
        return s.people.isEmpty() ? 1.0 : decent / s.people.size();
    }

    long digest() {
        List<Long> v = new ArrayList<>();
        for (int what = 0; what <= 21; what++) {
            v.add((long) count(what));
        }
        for (int g = 0; g < s.people.size(); g++) {
            for (int what = 0; what <= 10; what++) {
                v.add((long) guest(g, what));
            }
            v.add((long) whyNot(g, true));
            v.add((long) whyNot(g, false));
            v.add((long) bestGate(g));
            for (int gate = 0; gate < 3; gate++) {
                for (int what = 0; what <= 3; what++) {
                    v.add((long) ifOpened(g, gate, what));
                }
                v.add((long) freeIn(g, gate));
            }
        }
        for (int gate = 0; gate < 3; gate++) {
            v.add((long) line(gate));
            for (int rank = 0; rank <= 4; rank++) {
                v.add((long) law(gate, rank, s.night));
            }
            for (Person p : s.lines.get(gate)) {
                v.add((long) s.people.indexOf(p));
            }
        }
        v.add((long) stopped(0));
        v.add((long) stopped(1));
        v.add(Double.doubleToLongBits(decentShare()));
        v.add((long) buffer.length());
        for (char c : buffer.toCharArray()) {
            v.add((long) c);
        }
        long hash = 3923;
        for (long value : v) {
            hash = 31 * hash + value;
        }
        return hash;
    }
}
