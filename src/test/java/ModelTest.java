/** Random runs of calls, the same ones each time, against the model; behind each call the digests agree. */
final class ModelTest {
    private static final int RUNS = 4000;
    // An object is used for at most 512 calls; a step takes at most some 80.
    private static final int LAST_STEP = 420;
    private static final String SIGNS = "qoml$^;>*0123456789 x!";

    private final Check check = new Check("ModelTest");
    private long seed;
    private int calls;
    private LaceRanks x;
    private Model m;

    private int any(int bound) {
        seed = seed * 6364136223846793005L + 1442695040888963407L;
        return (int) Math.floorMod(seed >>> 33, (long) bound);
    }

    /** Mostly within 0 to most, now and then just outside, or far outside. */
    private int about(int most) {
        int kind = any(40);
        if (kind == 0) {
            return -1;
        }
        if (kind == 1) {
            return most + 1;
        }
        if (kind == 2) {
            return any(2) == 0 ? Integer.MIN_VALUE : Integer.MAX_VALUE;
        }
        return any(most + 1);
    }

    private int aGuest() {
        int size = m.s.people.size();
        return any(25) == 0 || size == 0 ? about(10) : any(size);
    }

    private String aPart() {
        switch (any(9)) {
            case 0:
            case 1:
            case 2:
                return "q" + digit() + ">" + any(3);
            case 3:
                return "o" + any(3);
            case 4:
                return "o" + any(3) + "*" + (1 + any(10));
            case 5:
                return "m" + digit();
            case 6:
                return "l" + digit() + ">" + digit();
            case 7:
                return "$" + digit();
            default:
                return any(3) == 0 ? "^" : "o" + any(3) + "*10";
        }
    }

    private int digit() {
        int size = m.s.people.size();
        return any(25) == 0 || size == 0 ? any(10) : any(size);
    }

    private void same(String call, Check.Call got, Check.Call want) {
        calls++;
        check.due(call, Check.told(got), Check.told(want));
    }

    private void type(String text) {
        for (int i = 0; i < text.length(); i++) {
            int code = text.charAt(i);
            same("append(" + code + ")", () -> x.append(code), () -> m.append(code));
        }
    }

    private void aText() {
        if (any(4) > 0) {
            same("clearBuffer()", x::clearBuffer, m::clearBuffer);
        }
        StringBuilder text = new StringBuilder(aPart());
        int parts = any(9);
        for (int i = 0; i < parts; i++) {
            text.append(';').append(aPart());
        }
        if (any(5) == 0) {
            text.setCharAt(any(text.length()), SIGNS.charAt(any(SIGNS.length())));
        }
        if (any(8) == 0) {
            text.setLength(any(text.length()));
        }
        type(text.toString());
        same("firstError() of " + m.buffer, x::firstError, m::firstError);
        String before = m.buffer;
        same("revel() of " + before, x::revel, m::revel);
    }

    private void change() {
        int g = aGuest();
        int o = aGuest();
        int a = about(4);
        int lace = about(40);
        int ribbons = about(99);
        int gate = about(2);
        int setting = about(5);
        int value = about(any(2) == 0 ? 9 : 100);
        switch (any(22)) {
            case 0:
            case 1:
                same("come", () -> x.come(a, lace, ribbons), () -> m.come(a, lace, ribbons));
                break;
            case 2:
                same("leave " + g, () -> x.leave(g), () -> m.leave(g));
                break;
            case 3:
                same("earn", () -> x.earn(g, ribbons), () -> m.earn(g, ribbons));
                break;
            case 4:
            case 5:
            case 6:
                same("lend " + g + " " + o, () -> x.lend(g, o), () -> m.lend(g, o));
                break;
            case 7:
            case 8:
                same("giveBack " + g, () -> x.giveBack(g), () -> m.giveBack(g));
                break;
            case 9:
                same("mask " + g, () -> x.mask(g), () -> m.mask(g));
                break;
            case 10:
                same("pay " + g, () -> x.pay(g), () -> m.pay(g));
                break;
            case 11:
            case 12:
            case 13:
                same("queue " + g + " " + gate, () -> x.queue(g, gate), () -> m.queue(g, gate));
                break;
            case 14:
            case 15:
            case 16:
                same("open " + gate, () -> x.open(gate), () -> m.open(gate));
                break;
            case 17:
                if (any(3) == 0) {
                    same("night", x::night, m::night);
                }
                break;
            case 18:
                same("set " + setting + " " + value, () -> x.set(setting, value), () -> m.set(setting, value));
                break;
            case 19:
                same("undo", x::undo, m::undo);
                break;
            case 20:
                same("keep", x::keep, m::keep);
                break;
            default:
                if (any(3) == 0) {
                    same("restore", x::restore, m::restore);
                } else {
                    aText();
                }
        }
    }

    private void look() {
        int g = aGuest();
        int o = aGuest();
        int gate = about(2);
        int what = about(10);
        int much = about(21);
        int rank = about(4);
        int night = about(1000);
        int few = about(3);
        same("guest", () -> x.guest(g, what), () -> m.guest(g, what));
        same("law", () -> x.law(gate, rank, night), () -> m.law(gate, rank, night));
        same("count " + much, () -> x.count(much), () -> m.count(much));
        same("line", () -> x.line(gate), () -> m.line(gate));
        same("noLoan", () -> x.noLoan(g, o), () -> m.noLoan(g, o));
        same("whyNot", () -> x.whyNot(g, what % 2 == 0), () -> m.whyNot(g, what % 2 == 0));
        same("ifOpened", () -> x.ifOpened(g, gate, few), () -> m.ifOpened(g, gate, few));
        same("bestGate", () -> x.bestGate(g), () -> m.bestGate(g));
        same("freeIn", () -> x.freeIn(g, gate), () -> m.freeIn(g, gate));
        same("stopped", () -> x.stopped(few), () -> m.stopped(few));
        same("decentShare", x::decentShare, m::decentShare);
        int ribbons = m.count(4) + m.count(5);
        int lace = m.count(8) + m.count(9);
        same("the ribbons, told in two ways", () -> x.count(7), () -> ribbons);
        same("the lace, told in two ways", () -> x.count(10), () -> lace);
    }

    private void run(int number) {
        seed = number * 7919L + 17L;
        x = new LaceRanks();
        m = new Model();
        calls = 0;
        for (int i = 0; calls < LAST_STEP && check.isRight(); i++) {
            change();
            same("run " + number + ", step " + i + ": digest", x::digest, m::digest);
            if (i % 4 == 0) {
                look();
            }
        }
    }

    public static void main(String[] args) {
        ModelTest test = new ModelTest();
        for (int i = 0; i < RUNS; i++) {
            test.run(i);
        }
        test.check.end();
    }
}
