import java.util.ArrayList;
import java.util.List;
import java.util.NoSuchElementException;
import java.util.Random;
import java.util.function.IntSupplier;
import java.util.regex.Matcher;
import java.util.regex.Pattern;

/** Long runs of chosen and of wild calls: the class answers what the model of the document answers. */
public final class TwinTest {
    private static final int RUNS = 3000;
    private static final int CALLS = 500;
    private static final String[] NAMES = {"wall", "box", "tv", "a", "bb", "lampe", "seven", "hung", "cord", "street", "dust",
        "noise", "x", "yy", "zzz", "abcdefg", "other"};
    private static final String[] WORDS = {"thing", "behind", "fault", "cures", "off", "cable", "pin", "on", "strikes", "minute",
        "or", "and", "not", "works", "up", "boots", "has", "lamp", "down", "number", ";", "<", "=", ">", "(", ")", ".", "A",
        "0", "1", "12", "13", "15", "16", "20", "21", "30", "31", "60", "61", "99", "100", "200", "201", "999", "1000", "007",
        "a1", "1a", "abcdefgh", "", "\n", "wall", "box", "hung", "zzzz"};

    private final Random r;
    private final Check c;
    private final int run;
    private OffThenOn x = new OffThenOn();
    private Model m = new Model();
    private List<String> things = new ArrayList<>();
    private List<String> faults = new ArrayList<>();
    private final List<String> trace = new ArrayList<>();
    private boolean apart;
    private int used;

    private TwinTest(Check c, int run) {
        this.c = c;
        this.run = run;
        this.r = new Random(run * 7919L + 17);
    }

    public static void main(String[] args) {
        Check c = new Check();
        for (int run = 0; run < RUNS; run++) {
            new TwinTest(c, run).go();
        }
        c.close();
    }

    private static long of(IntSupplier call) {
        try {
            return call.getAsInt();
        } catch (NoSuchElementException e) {
            return Long.MIN_VALUE;
        }
    }

    private void same(String call, IntSupplier got, IntSupplier due) {
        if (apart) {
            return;
        }
        used++;
        trace.add(call);
        long g = of(got);
        long d = of(due);
        c.is("run " + run + " call " + trace.size() + " " + call, g, d);
        if (g != d) {
            apart = true;
            System.out.println("  " + String.join("; ", trace.subList(Math.max(0, trace.size() - 12), trace.size())));
        }
    }

    private void go() {
        if (r.nextInt(10) > 0) {
            houses(makeHouse());
        }
        // Few runs of wild calls would ever come to the last MINUTE.
        int hours = r.nextInt(4) == 0 ? 14 + r.nextInt(4) : 0;
        for (int i = 0; i < hours; i++) {
            same("minutes(60)", () -> x.minutes(60), () -> m.minutes(60));
        }
        while (used < CALLS && !apart) {
            step();
        }
    }

    private int pick(int... of) {
        return of[r.nextInt(of.length)];
    }

    private int seed() {
        return r.nextBoolean() ? r.nextInt(1000) : r.nextInt();
    }

    private int t() {
        return r.nextInt(12) == 0 ? pick(-1, 6, 7, Integer.MAX_VALUE, Integer.MIN_VALUE) : r.nextInt(Math.max(1, m.count(0)) + (r.nextInt(8) == 0 ? 1 : 0));
    }

    private int f() {
        return r.nextInt(12) == 0 ? pick(-1, 8, 9, 31, 32, Integer.MAX_VALUE, Integer.MIN_VALUE) : r.nextInt(Math.max(1, m.count(1)) + (r.nextInt(8) == 0 ? 1 : 0));
    }

    private void step() {
        switch (r.nextInt(12)) {
            case 0:
            case 1:
            case 2:
            case 3:
                act();
                break;
            case 4:
            case 5:
            case 6:
                ask();
                break;
            case 7:
                askByTape();
                break;
            case 8:
                logs();
                break;
            case 9:
                sentences();
                break;
            case 10:
                keep();
                break;
            default:
                if (r.nextInt(3) == 0) {
                    houses(r.nextInt(3) == 0 ? spoil(makeHouse(), 900) : makeHouse());
                } else {
                    ask();
                }
        }
        if (r.nextInt(6) == 0) {
            lookAtAll();
        }
    }

    private void lookAtAll() {
        for (int i = 0; i < m.count(0); i++) {
            int t = i;
            for (int w = 3; w <= 8; w++) {
                int what = w;
                same("thing(" + t + ", " + what + ")", () -> x.thing(t, what), () -> m.thing(t, what));
            }
        }
        for (int w = 0; w < 7; w++) {
            int what = w;
            same("now(" + what + ")", () -> x.now(what), () -> m.now(what));
        }
        int f = f();
        for (int w = 4; w < 8; w++) {
            int what = w;
            same("trouble(" + f + ", " + what + ")", () -> x.trouble(f, what), () -> m.trouble(f, what));
        }
    }

    private void act() {
        int t = t();
        int f = f();
        int s = seed();
        switch (r.nextInt(9)) {
            case 0:
                same("off(" + t + ")", () -> x.off(t), () -> m.off(t));
                break;
            case 1:
            case 2:
                same("on(" + t + ", " + s + ")", () -> x.on(t, s), () -> m.on(t, s));
                break;
            case 3:
                same("cable(" + t + ", " + s + ")", () -> x.cable(t, s), () -> m.cable(t, s));
                break;
            case 4:
                same("pin(" + t + ", " + s + ")", () -> x.pin(t, s), () -> m.pin(t, s));
                break;
            case 5:
            case 6:
                same("strike(" + f + ")", () -> x.strike(f), () -> m.strike(f));
                break;
            case 7: {
                int n = r.nextInt(10) == 0 ? pick(0, 61, -1, 60) : 1 + r.nextInt(r.nextInt(3) == 0 ? 60 : 5);
                same("minutes(" + n + ")", () -> x.minutes(n), () -> m.minutes(n));
                break;
            }
            default: {
                int n = r.nextInt(6) == 0 ? pick(0, 61, -1, 60) : 1 + r.nextInt(20);
                same("drawn(" + n + ", " + s + ")", () -> x.drawn(n, s), () -> m.drawn(n, s));
            }
        }
    }

    private int set() {
        int all = (1 << m.count(1)) - 1;
        int set = r.nextInt() & all;
        if (r.nextInt(3) == 0) {
            int t = t();
            set = 0;
            for (int g = 0; g < m.count(1); g++) {
                set |= m.trouble(g, 0) == t && r.nextInt(4) > 0 ? 1 << g : 0;
            }
        }
        return r.nextInt(15) == 0 ? pick(0, -1, all + 1, r.nextInt(), Integer.MIN_VALUE) : set;
    }

    private void ask() {
        int t = t();
        int f = f();
        int what = r.nextInt(11) - 1;
        int one = r.nextInt(12) == 0 ? pick(-1, 2) : r.nextInt(2);
        switch (r.nextInt(22)) {
            case 0:
                same("thing(" + t + ", " + what + ")", () -> x.thing(t, what), () -> m.thing(t, what));
                break;
            case 1:
                same("trouble(" + f + ", " + what + ")", () -> x.trouble(f, what), () -> m.trouble(f, what));
                break;
            case 2: {
                int d = r.nextInt(5) - 1;
                same("cures(" + f + ", " + d + ")", () -> x.cures(f, d), () -> m.cures(f, d));
                break;
            }
            case 3:
                same("now(" + what + ")", () -> x.now(what), () -> m.now(what));
                break;
            case 4:
                same("likely(" + f + ", " + one + ")", () -> x.likely(f, one), () -> m.likely(f, one));
                break;
            case 5:
            case 6:
            case 7: {
                int set = set();
                int of = set > 0 && set < 1 << m.count(1) && r.nextInt(5) > 0
                        ? m.trouble(Integer.numberOfTrailingZeros(set), 0) : t;
                same("plan(" + of + ", " + set + ", " + one + ")", () -> x.plan(of, set, one), () -> m.plan(of, set, one));
                for (int i = -1; i < 5; i++) {
                    int k = i;
                    same("planAt(" + k + ")", () -> x.planAt(k), () -> m.planAt(k));
                }
                break;
            }
            case 8:
                same("ready(" + t + ")", () -> x.ready(t), () -> m.ready(t));
                break;
            case 9:
                same("starts(" + t + ")", () -> x.starts(t), () -> m.starts(t));
                break;
            case 10:
                same("lots()", x::lots, m::lots);
                break;
            case 11:
                same("alike(" + f + ")", () -> x.alike(f), () -> m.alike(f));
                break;
            case 12:
                same("kinds()", x::kinds, m::kinds);
                break;
            case 13: {
                int set = set();
                same("look(" + set + ")", () -> x.look(set), () -> m.look(set));
                same("left()", x::left, m::left);
                break;
            }
            case 14:
                same("heals(" + f + ")", () -> x.heals(f), () -> m.heals(f));
                break;
            case 15:
            case 16:
                same("worksIn(" + t + ")", () -> x.worksIn(t), () -> m.worksIn(t));
                break;
            case 17: {
                same("tell(" + t + ")", () -> x.tell(t), () -> m.tell(t));
                for (int i = -1; i <= m.told.length(); i++) {
                    int k = i;
                    same("byteAt(" + k + ")", () -> x.byteAt(k), () -> m.byteAt(k));
                }
                break;
            }
            case 18: {
                int n = r.nextInt(6) == 0 ? pick(0, 31, 30, -5) : 1 + r.nextInt(4);
                int s = seed();
                same("odds(" + t + ", " + n + ", " + s + ")", () -> x.odds(t, n, s), () -> m.odds(t, n, s));
                break;
            }
            case 19:
                same("logged(" + what + ")", () -> x.logged(what), () -> m.logged(what));
                break;
            case 20: {
                int k = what;
                same("said(" + k + ")", () -> x.said(k), () -> m.said(k));
                break;
            }
            default:
                same("count(" + what + ")", () -> x.count(what), () -> m.count(what));
        }
    }

    private void askByTape() {
        int t = t();
        switch (r.nextInt(3)) {
            case 0: {
                int n = r.nextInt(8) == 0 ? r.nextInt(8) : 1 + r.nextInt(2);
                StringBuilder b = new StringBuilder();
                for (int i = 0; i < n; i++) {
                    int of = Math.max(0, t()) & 255;
                    int lamp = r.nextInt(3) > 0 ? 18 : r.nextInt(20);
                    if (r.nextInt(2) == 0 && m.count(1) > 0) {
                        int f = r.nextInt(m.count(1));
                        of = m.trouble(f, 0);
                        lamp = m.trouble(f, 3);
                    }
                    b.append((char) of).append((char) lamp);
                }
                if (r.nextInt(15) == 0) {
                    b.append((char) 0);
                }
                give(b.toString());
                same("what()", x::what, m::what);
                for (int i = 0; i < 8; i++) {
                    int f = i;
                    int w = r.nextInt(2);
                    same("likely(" + f + ", " + w + ")", () -> x.likely(f, w), () -> m.likely(f, w));
                }
                break;
            }
            case 1: {
                int n = r.nextInt(8) == 0 ? r.nextInt(13) : 2 + r.nextInt(9);
                StringBuilder b = new StringBuilder();
                int most = pick(3, 20, 256);
                for (int i = 0; i < n; i++) {
                    b.append((char) (r.nextInt(60) == 0 ? 2 : r.nextInt(2))).append((char) r.nextInt(most));
                }
                if (r.nextInt(20) == 0) {
                    b.append((char) 1);
                }
                give(b.toString());
                same("helped()", x::helped, m::helped);
                same("lots()", x::lots, m::lots);
                break;
            }
            default: {
                give(lamps(t));
                same("fits(" + t + ")", () -> x.fits(t), () -> m.fits(t));
            }
        }
        same("count(3)", () -> x.count(3), () -> m.count(3));
    }

    /** Mostly what the LAMP will really show, with one of its FAULTS or none. */
    private String lamps(int t) {
        int n = r.nextInt(10) == 0 ? pick(0, 60, 61, 62) : 1 + r.nextInt(30);
        StringBuilder b = new StringBuilder();
        if (t < 0 || t >= m.count(0)) {
            return "\1\2";
        }
        Model.World w = m.w.copy();
        int f = r.nextInt(w.faults.size() + 1);
        for (Model.Fault g : w.faults) {
            g.there = g.index == f;
            g.age = 0;
        }
        for (int i = 0; i < n; i++) {
            b.append((char) (r.nextInt(200) == 0 ? r.nextInt(256) : w.lamp(w.things.get(t))));
            w.minute();
        }
        return b.toString();
    }

    private void keep() {
        int k = r.nextInt(8) == 0 ? pick(-1, 2, 3) : r.nextInt(2);
        switch (r.nextInt(4)) {
            case 0:
                same("image(" + k + ")", () -> x.image(k) ? 1 : 0, () -> m.image(k) ? 1 : 0);
                break;
            case 1:
                same("restore(" + k + ")", () -> x.restore(k) ? 1 : 0, () -> m.restore(k) ? 1 : 0);
                knowNames();
                break;
            default: {
                int n = r.nextInt(5) == 0 ? 10 : 1 + r.nextInt(3);
                for (int i = 0; i < n; i++) {
                    same("undo()", x::undo, m::undo);
                }
            }
        }
    }

    private void houses(String text) {
        give(text);
        same("house()", x::house, m::house);
        same("fault()", x::fault, m::fault);
        knowNames();
    }

    private void knowNames() {
        things = new ArrayList<>();
        faults = new ArrayList<>();
        m.w.things.forEach(t -> things.add(t.name));
        m.w.faults.forEach(f -> faults.add(f.name));
    }

    private void give(String text) {
        for (int i = 0; i < text.length() && !apart; i += 20) {
            int[] n = new int[5];
            for (int j = 0; j < 20; j++) {
                n[j / 4] = n[j / 4] << 8 | (i + j < text.length() ? text.charAt(i + j) & 255 : r.nextInt(256));
            }
            same("feed(" + n[0] + ", " + n[1] + ", " + n[2] + ", " + n[3] + ", " + n[4] + ")",
                    () -> x.feed(n[0], n[1], n[2], n[3], n[4]), () -> m.feed(n));
        }
        int e = r.nextInt(60) == 0 ? pick(-1, 941, text.length() + 40) : text.length();
        same("end(" + e + ")", () -> x.end(e) ? 1 : 0, () -> m.end(e) ? 1 : 0);
    }

    private String name(List<String> told) {
        List<String> free = new ArrayList<>(List.of(NAMES));
        free.removeAll(told);
        return free.get(r.nextInt(free.size()));
    }

    private String makeHouse() {
        things = new ArrayList<>();
        faults = new ArrayList<>();
        List<String> all = new ArrayList<>();
        StringBuilder b = new StringBuilder();
        int nt = r.nextInt(12) == 0 ? 7 : r.nextInt(7);
        int nf = nt == 0 ? 0 : r.nextInt(12) == 0 ? 9 : r.nextInt(9);
        for (int i = 0; i < nt; i++) {
            String n = name(all);
            b.append("thing ").append(n).append(' ').append(1 + r.nextInt(r.nextInt(4) == 0 ? 30 : 5)).append(' ')
                    .append(r.nextInt(r.nextInt(4) == 0 ? 21 : 4));
            if (i > 0 && r.nextInt(4) > 0) {
                b.append(" behind ").append(things.get(r.nextInt(things.size())));
            }
            b.append(r.nextInt(10) == 0 ? " ;\n" : ";");
            things.add(n);
            all.add(n);
        }
        List<String> cures = new ArrayList<>();
        for (int i = 0; i < nf; i++) {
            String n = name(all);
            String home = things.get(r.nextInt(r.nextInt(2) == 0 ? 1 : things.size()));
            b.append("fault ").append(n).append(' ').append(home).append(' ')
                    .append(r.nextInt(3) == 0 ? 0 : r.nextInt(r.nextInt(3) == 0 ? 201 : 20)).append(' ').append(1 + r.nextInt(99))
                    .append(' ').append(1 + r.nextInt(r.nextInt(2) == 0 ? 3 : 15)).append(';');
            faults.add(n);
            all.add(n);
            for (String d : Model.DEEDS) {
                if (r.nextInt(2) == 0) {
                    cures.add("cures " + n + " " + d + " " + (r.nextInt(3) == 0 ? 12 : 1 + r.nextInt(12)) + ";");
                }
            }
        }
        int most = r.nextInt(10) == 0 ? 17 : 16;
        for (int i = 0; i < cures.size() && i < most; i++) {
            b.append(cures.get(i));
        }
        return b.toString();
    }

    private void logs() {
        StringBuilder b = new StringBuilder();
        int n = r.nextInt(6) == 0 ? 38 + r.nextInt(5) : r.nextInt(10);
        boolean brief = n > 20;
        for (int i = 0; i < n; i++) {
            int k = r.nextInt(brief ? 3 : 8);
            if (k < 5 && k != 1 && !things.isEmpty()) {
                String verb = new String[] {"off", "on", "on", "cable", "pin"}[brief ? 0 : r.nextInt(5)];
                b.append(things.get(r.nextInt(things.size()))).append(' ').append(verb);
                if (!verb.equals("off")) {
                    b.append(' ').append(r.nextInt(1000));
                }
            } else if (k < 7 && k != 1 && !faults.isEmpty()) {
                b.append("strikes ").append(faults.get(r.nextInt(faults.size())));
            } else {
                b.append("minute ").append(1 + r.nextInt(r.nextInt(3) == 0 ? 60 : 9));
            }
            b.append(";");
        }
        int lives = r.nextInt(25) == 0 ? pick(-1, 2, 7) : r.nextInt(2);
        give(r.nextInt(3) == 0 ? spoil(b.toString(), 400) : b.toString());
        same("log(" + lives + ")", () -> x.log(lives), () -> m.log(lives));
        same("fault()", x::fault, m::fault);
        for (int i = 0; i < 4; i++) {
            int k = i;
            same("logged(" + k + ")", () -> x.logged(k), () -> m.logged(k));
        }
        same("count(3)", () -> x.count(3), () -> m.count(3));
        if (m.count(3) > 0 && r.nextBoolean()) {
            same("end(0)", () -> x.end(0) ? 1 : 0, () -> m.end(0) ? 1 : 0);
        }
    }

    private String one(int deep) {
        switch (r.nextInt(deep > 0 ? 10 : 8)) {
            case 0:
                return "works";
            case 1:
                return "up";
            case 2:
                return "boots";
            case 3:
                return faults.isEmpty() ? "up" : "has " + faults.get(r.nextInt(faults.size()));
            case 4:
                return things.isEmpty() ? "up" : "behind " + things.get(r.nextInt(things.size()));
            case 5:
                return "lamp" + "<=>".charAt(r.nextInt(3)) + r.nextInt(19);
            case 6:
                return "down " + "<=>".charAt(r.nextInt(3)) + " " + r.nextInt(10);
            case 7:
                return "number" + "<=>".charAt(r.nextInt(3)) + r.nextInt(6);
            case 8:
                return "not " + one(deep - 1);
            default:
                return "(" + cond(deep - 1) + ")";
        }
    }

    private String cond(int deep) {
        StringBuilder b = new StringBuilder(one(deep));
        int n = r.nextInt(8) == 0 ? r.nextInt(20) : r.nextInt(3);
        for (int i = 0; i < n; i++) {
            b.append(r.nextBoolean() ? " and " : " or ").append(one(deep));
        }
        return b.toString();
    }

    private void sentences() {
        String s = r.nextInt(6) == 0 ? "not ".repeat(r.nextInt(5)) + "(".repeat(r.nextInt(6)) + one(1) + ")".repeat(r.nextInt(6))
                : cond(r.nextInt(5));
        if (s.length() > 900) {
            s = s.substring(0, 900);
        }
        give(r.nextInt(4) == 0 ? spoil(s, 200) : s);
        same("sentence()", x::sentence, m::sentence);
        same("fault()", x::fault, m::fault);
        for (int i = -2; i < 7; i++) {
            int k = i;
            same("said(" + k + ")", () -> x.said(k), () -> m.said(k));
        }
    }

    private String anyNumber(String s, String number) {
        List<int[]> found = new ArrayList<>();
        Matcher n = Pattern.compile("[0-9]+").matcher(s);
        while (n.find()) {
            found.add(new int[] {n.start(), n.end()});
        }
        if (found.isEmpty()) {
            return s;
        }
        int[] one = found.get(r.nextInt(found.size()));
        return s.substring(0, one[0]) + number + s.substring(one[1]);
    }

    private String spoil(String s, int most) {
        StringBuilder b = new StringBuilder(s);
        int n = 1 + r.nextInt(2);
        for (int i = 0; i < n; i++) {
            int at = r.nextInt(b.length() + 1);
            switch (r.nextInt(7)) {
                case 6: {
                    String number = String.valueOf(r.nextInt(r.nextBoolean() ? 20 : 1100));
                    b = new StringBuilder(anyNumber(b.toString(), number));
                    break;
                }
                case 0:
                    b.insert(at, " " + WORDS[r.nextInt(WORDS.length)] + " ");
                    break;
                case 1:
                    b.delete(at, Math.min(b.length(), at + 1 + r.nextInt(6)));
                    break;
                case 2:
                    b.insert(at, (char) r.nextInt(256));
                    break;
                case 3: {
                    int pad = most - b.length() + r.nextInt(9) - 4;
                    if (pad > 0) {
                        b.insert(r.nextInt(3) == 0 ? at : b.length(), (r.nextBoolean() ? " " : "\n").repeat(pad));
                    }
                    break;
                }
                case 4:
                    b.setLength(at);
                    break;
                default: {
                    int to = at;
                    while (to < b.length() && b.charAt(to) != ' ' && b.charAt(to) != ';') {
                        to++;
                    }
                    b.replace(at, to, WORDS[r.nextInt(WORDS.length)]);
                }
            }
        }
        return b.length() > 930 ? b.substring(0, 930) : b.toString();
    }
}
