import java.math.BigInteger;
import java.util.ArrayDeque;
import java.util.ArrayList;
import java.util.Arrays;
import java.util.Deque;
import java.util.HashMap;
import java.util.HashSet;
import java.util.List;
import java.util.Map;
import java.util.NoSuchElementException;
import java.util.Set;

/** The document written down a second time, in objects, texts and great numbers, to be compared with the class. */
final class Model {
    static final int NONE = -1;
    static final Set<String> TAKEN = Set.of("thing", "behind", "fault", "cures", "off", "cable", "pin", "on", "strikes",
            "minute", "or", "and", "not", "works", "up", "boots", "has", "lamp", "down", "number");
    static final List<String> DEEDS = List.of("off", "cable", "pin");

    static final class Thing {
        int index;
        String name;
        int boot;
        int wait;
        Thing behind;
        String mode = "up";
        int offFor;
        int bootsYet;
        boolean number = true;
        int down;

        boolean isBehind(Thing other) {
            return behind != null && (behind == other || behind.isBehind(other));
        }
    }

    static final class Fault {
        int index;
        String name;
        Thing thing;
        int heals;
        int odds;
        int shows;
        Map<String, Integer> cures = new HashMap<>();
        boolean there;
        int age;
        int struck;
        int healed;
    }

    interface Saying {
        boolean of(World w, int thing);
    }

    static final class Dice {
        int x;

        Dice(int x) {
            this.x = x;
        }

        int draw(int n) {
            x = x * 1103515245 + 12345;
            return (x >>> 8) % n;
        }
    }

    static final class World {
        List<Thing> things = new ArrayList<>();
        List<Fault> faults = new ArrayList<>();
        int minute;
        int deeds;
        int byDeeds;
        int byThemselves;

        World copy() {
            World w = new World();
            for (Thing t : things) {
                Thing n = new Thing();
                n.index = t.index;
                n.name = t.name;
                n.boot = t.boot;
                n.wait = t.wait;
                n.behind = t.behind == null ? null : w.things.get(t.behind.index);
                n.mode = t.mode;
                n.offFor = t.offFor;
                n.bootsYet = t.bootsYet;
                n.number = t.number;
                n.down = t.down;
                w.things.add(n);
            }
            for (Fault f : faults) {
                Fault n = new Fault();
                n.index = f.index;
                n.name = f.name;
                n.thing = w.things.get(f.thing.index);
                n.heals = f.heals;
                n.odds = f.odds;
                n.shows = f.shows;
                n.cures.putAll(f.cures);
                n.there = f.there;
                n.age = f.age;
                n.struck = f.struck;
                n.healed = f.healed;
                w.faults.add(n);
            }
            w.minute = minute;
            w.deeds = deeds;
            w.byDeeds = byDeeds;
            w.byThemselves = byThemselves;
            return w;
        }

        boolean works(Thing t) {
            if (!t.mode.equals("up") || !t.number) {
                return false;
            }
            for (Fault f : faults) {
                if (f.there && f.thing == t) {
                    return false;
                }
            }
            return t.behind == null || works(t.behind);
        }

        int lamp(Thing t) {
            if (t.mode.equals("off")) {
                return 0;
            }
            if (t.mode.equals("boots")) {
                return 16;
            }
            int show = 0;
            for (Fault f : faults) {
                if (f.there && f.thing == t && f.shows > show) {
                    show = f.shows;
                }
            }
            return show > 0 ? show : t.number ? 18 : 17;
        }

        void down(Thing t) {
            t.mode = "off";
            t.offFor = 0;
            t.bootsYet = 0;
            t.number = false;
            for (Thing o : things) {
                if (o.isBehind(t)) {
                    o.number = false;
                }
            }
        }

        void boot(Thing t) {
            t.mode = "boots";
            t.offFor = 0;
            t.bootsYet = t.boot;
        }

        void deed(Thing t, String deed, Dice d) {
            deeds++;
            for (Fault f : faults) {
                if (f.thing == t && f.there && f.cures.containsKey(deed)) {
                    if (d.draw(12) < f.cures.get(deed)) {
                        f.there = false;
                        f.age = 0;
                        byDeeds++;
                    }
                }
            }
        }

        int off(Thing t) {
            if (t.mode.equals("off")) {
                return 1;
            }
            down(t);
            return 0;
        }

        int on(Thing t, Dice d) {
            if (!t.mode.equals("off")) {
                return 1;
            }
            if (t.offFor < t.wait) {
                return 2;
            }
            boot(t);
            deed(t, "off", d);
            return 0;
        }

        int cable(Thing t, Dice d) {
            if (t.mode.equals("off")) {
                return 1;
            }
            deed(t, "cable", d);
            return 0;
        }

        int pin(Thing t, Dice d) {
            if (t.mode.equals("off")) {
                return 1;
            }
            down(t);
            boot(t);
            deed(t, "pin", d);
            return 0;
        }

        int strike(Fault f) {
            if (f.there) {
                return 1;
            }
            f.there = true;
            f.age = 0;
            f.struck++;
            return 0;
        }

        boolean minute() {
            if (minute >= 1000) {
                return false;
            }
            for (Thing t : things) {
                if (t.mode.equals("off")) {
                    t.offFor++;
                    t.down++;
                } else if (t.mode.equals("boots")) {
                    t.bootsYet--;
                    if (t.bootsYet == 0) {
                        t.mode = "up";
                        t.number = t.behind == null || t.behind.mode.equals("up") && t.behind.number;
                    }
                }
            }
            for (Fault f : faults) {
                if (f.there) {
                    f.age++;
                    if (f.heals > 0 && f.age == f.heals) {
                        f.there = false;
                        f.age = 0;
                        f.healed++;
                        byThemselves++;
                    }
                }
            }
            minute++;
            return true;
        }

        int drawn(int n, int seed) {
            Dice d = new Dice(seed);
            int gone = 0;
            for (int i = 0; i < n && minute < 1000; i++) {
                if (d.draw(30) == 0) {
                    if (!faults.isEmpty()) {
                        strike(faults.get(d.draw(faults.size())));
                    }
                }
                for (Thing t : things) {
                    int k = d.draw(20);
                    if (k == 0) {
                        off(t);
                    }
                    if (k == 1 || k == 2 || k == 3) {
                        on(t, d);
                    }
                }
                minute();
                gone++;
            }
            return gone;
        }

        int working() {
            int bits = 0;
            for (Thing t : things) {
                bits += works(t) ? 1 << t.index : 0;
            }
            return bits;
        }
    }

    static final class Bad extends Exception {
        private static final long serialVersionUID = 1L;
        final int kind;
        final int place;

        Bad(int kind, int place) {
            super("kind " + kind + " at " + place);
            this.kind = kind;
            this.place = place;
        }
    }

    record Token(int place, String text) {
        boolean isWord() {
            return text.matches("[a-z]{1,7}");
        }

        boolean isNumber() {
            return text.matches("[0-9]{1,3}");
        }

        boolean isName() {
            return isWord() && !TAKEN.contains(text);
        }

        boolean isToken() {
            return isWord() || isNumber() || text.matches("[;<=>()]");
        }
    }

    static final class Tokens {
        final List<Token> all = new ArrayList<>();
        int at;

        Tokens(String text, int most) {
            int i = 0;
            while (true) {
                while (i < text.length() && (text.charAt(i) == ' ' || text.charAt(i) == '\n')) {
                    i++;
                }
                if (text.length() > most && i >= most) {
                    all.add(new Token(most, "TOO LONG"));
                    return;
                }
                if (i == text.length()) {
                    all.add(new Token(i, "END"));
                    return;
                }
                int j = i + 1;
                if (String.valueOf(text.charAt(i)).matches("[a-z0-9]")) {
                    while (j < text.length() && String.valueOf(text.charAt(j)).matches("[a-z0-9]")) {
                        j++;
                    }
                }
                all.add(new Token(i, text.substring(i, j)));
                i = j;
            }
        }

        Token peek() {
            return all.get(at);
        }

        boolean atEnd() {
            return peek().text.equals("END");
        }

        Token next() {
            return all.get(at < all.size() - 1 ? at++ : at);
        }

        void must(String text) throws Bad {
            Token t = next();
            if (!t.text.equals(text)) {
                throw new Bad(1, t.place);
            }
        }

        int number(int least, int most) throws Bad {
            Token t = next();
            if (!t.isNumber()) {
                throw new Bad(1, t.place);
            }
            int n = Integer.parseInt(t.text);
            if (n < least || n > most) {
                throw new Bad(2, t.place);
            }
            return n;
        }
    }

    String tape = "";
    World w = new World();
    Saying sentence;
    int ones;
    Deque<World> undo = new ArrayDeque<>();
    World[] imageWorld = new World[2];
    Saying[] imageSentence = new Saying[2];
    int fault;
    Map<Integer, Integer> lastWhat;
    List<Integer> lastPlan;
    int lots = NONE;
    int left = NONE;
    String told = "";
    int[] logged;

    int feed(int... n) {
        if (tape.length() + 20 > 940) {
            return NONE;
        }
        StringBuilder b = new StringBuilder(tape);
        for (int i : n) {
            for (int s = 24; s >= 0; s -= 8) {
                b.append((char) (i >>> s & 255));
            }
        }
        tape = b.toString();
        return tape.length();
    }

    boolean end(int n) {
        if (n < 0 || n > tape.length()) {
            return false;
        }
        tape = tape.substring(0, n);
        return true;
    }

    private String take() {
        String text = tape;
        tape = "";
        return text;
    }

    static Thing findThing(World h, String name) {
        return h.things.stream().filter(t -> t.name.equals(name)).findFirst().orElse(null);
    }

    static Fault findFault(World h, String name) {
        return h.faults.stream().filter(f -> f.name.equals(name)).findFirst().orElse(null);
    }

    private static Thing thingHere(World h, Tokens in) throws Bad {
        Token t = in.next();
        if (!t.isName()) {
            throw new Bad(1, t.place);
        }
        Thing found = findThing(h, t.text);
        if (found == null) {
            throw new Bad(3, t.place);
        }
        return found;
    }

    private static Fault faultHere(World h, Tokens in) throws Bad {
        Token t = in.next();
        if (!t.isName()) {
            throw new Bad(1, t.place);
        }
        Fault found = findFault(h, t.text);
        if (found == null) {
            throw new Bad(3, t.place);
        }
        return found;
    }

    private static String newName(World h, Tokens in) throws Bad {
        Token t = in.next();
        if (!t.isName()) {
            throw new Bad(1, t.place);
        }
        if (findThing(h, t.text) != null || findFault(h, t.text) != null) {
            throw new Bad(3, t.place);
        }
        return t.text;
    }

    private static int curesOf(World h) {
        return h.faults.stream().mapToInt(f -> f.cures.size()).sum();
    }

    private static int readHouse(World h, Tokens in) throws Bad {
        int lines = 0;
        while (!in.atEnd()) {
            Token first = in.next();
            switch (first.text) {
                case "thing": {
                    if (h.things.size() == 6) {
                        throw new Bad(4, first.place);
                    }
                    Thing t = new Thing();
                    t.index = h.things.size();
                    t.name = newName(h, in);
                    t.boot = in.number(1, 30);
                    t.wait = in.number(0, 20);
                    if (in.peek().text.equals("behind")) {
                        in.next();
                        t.behind = thingHere(h, in);
                    }
                    in.must(";");
                    h.things.add(t);
                    break;
                }
                case "fault": {
                    if (h.faults.size() == 8) {
                        throw new Bad(4, first.place);
                    }
                    Fault f = new Fault();
                    f.index = h.faults.size();
                    f.name = newName(h, in);
                    f.thing = thingHere(h, in);
                    f.heals = in.number(0, 200);
                    f.odds = in.number(1, 99);
                    f.shows = in.number(1, 15);
                    in.must(";");
                    h.faults.add(f);
                    break;
                }
                case "cures": {
                    if (curesOf(h) == 16) {
                        throw new Bad(4, first.place);
                    }
                    Fault f = faultHere(h, in);
                    Token deed = in.next();
                    if (!DEEDS.contains(deed.text)) {
                        throw new Bad(1, deed.place);
                    }
                    if (f.cures.containsKey(deed.text)) {
                        throw new Bad(3, deed.place);
                    }
                    int n = in.number(1, 12);
                    in.must(";");
                    f.cures.put(deed.text, n);
                    break;
                }
                default:
                    throw new Bad(1, first.place);
            }
            lines++;
        }
        return lines;
    }

    int house() {
        World h = new World();
        try {
            int lines = readHouse(h, new Tokens(take(), 900));
            w = h;
            sentence = null;
            undo.clear();
            fault = 0;
            return lines;
        } catch (Bad b) {
            fault = b.kind;
            return -1 - b.place;
        }
    }

    int fault() {
        return fault;
    }

    private boolean isThing(int t) {
        return t >= 0 && t < w.things.size();
    }

    private boolean isFault(int f) {
        return f >= 0 && f < w.faults.size();
    }

    int thing(int i, int what) {
        if (!isThing(i) || what < 0 || what > 8) {
            throw new NoSuchElementException();
        }
        Thing t = w.things.get(i);
        int[] all = {t.boot, t.wait, t.behind == null ? NONE : t.behind.index, List.of("off", "boots", "up").indexOf(t.mode),
            t.mode.equals("off") ? t.offFor : t.mode.equals("boots") ? t.bootsYet : 0, t.number ? 1 : 0, w.lamp(t),
            w.works(t) ? 1 : 0, t.down};
        return all[what];
    }

    int trouble(int i, int what) {
        if (!isFault(i) || what < 0 || what > 7) {
            throw new NoSuchElementException();
        }
        Fault f = w.faults.get(i);
        int[] all = {f.thing.index, f.heals, f.odds, f.shows, f.there ? 1 : 0, f.there ? f.age : 0, f.struck, f.healed};
        return all[what];
    }

    int cures(int f, int deed) {
        if (!isFault(f) || deed < 0 || deed > 2) {
            return NONE;
        }
        return w.faults.get(f).cures.getOrDefault(DEEDS.get(deed), 0);
    }

    int now(int what) {
        int ups = 0;
        for (Thing t : w.things) {
            ups += t.mode.equals("up") ? 1 << t.index : 0;
        }
        int there = 0;
        for (Fault f : w.faults) {
            there += f.there ? 1 << f.index : 0;
        }
        int[] all = {w.minute, w.working(), ups, there, w.deeds, w.byDeeds, w.byThemselves};
        return what < 0 || what > 6 ? NONE : all[what];
    }

    private int done(World before, boolean was, int answer) {
        if (was) {
            undo.addLast(before);
            if (undo.size() > 8) {
                undo.removeFirst();
            }
        }
        return answer;
    }

    int off(int t) {
        if (!isThing(t)) {
            return NONE;
        }
        World before = w.copy();
        int r = w.off(w.things.get(t));
        return done(before, r == 0, r);
    }

    int on(int t, int seed) {
        if (!isThing(t)) {
            return NONE;
        }
        World before = w.copy();
        int r = w.on(w.things.get(t), new Dice(seed));
        return done(before, r == 0, r);
    }

    int cable(int t, int seed) {
        if (!isThing(t)) {
            return NONE;
        }
        World before = w.copy();
        int r = w.cable(w.things.get(t), new Dice(seed));
        return done(before, r == 0, r);
    }

    int pin(int t, int seed) {
        if (!isThing(t)) {
            return NONE;
        }
        World before = w.copy();
        int r = w.pin(w.things.get(t), new Dice(seed));
        return done(before, r == 0, r);
    }

    int strike(int f) {
        if (!isFault(f)) {
            return NONE;
        }
        World before = w.copy();
        int r = w.strike(w.faults.get(f));
        return done(before, r == 0, r);
    }

    int minutes(int n) {
        if (n < 1 || n > 60) {
            return NONE;
        }
        World before = w.copy();
        int gone = 0;
        for (int i = 0; i < n; i++) {
            gone += w.minute() ? 1 : 0;
        }
        return done(before, gone > 0, gone);
    }

    int undo() {
        if (undo.isEmpty()) {
            return NONE;
        }
        w = undo.removeLast();
        return undo.size();
    }

    int what() {
        String t = take();
        if (t.length() < 2 || t.length() > 12 || t.length() % 2 == 1) {
            return NONE;
        }
        for (int i = 0; i < t.length(); i += 2) {
            if (t.charAt(i) >= w.things.size()) {
                return NONE;
            }
        }
        int bits = 0;
        Map<Integer, Integer> found = new HashMap<>();
        for (Fault f : w.faults) {
            World well = w.copy();
            for (Thing g : well.things) {
                g.mode = "up";
                g.number = true;
            }
            for (Fault g : well.faults) {
                g.there = g.index == f.index;
            }
            boolean so = true;
            for (int i = 0; i < t.length(); i += 2) {
                so &= well.lamp(well.things.get(t.charAt(i))) == t.charAt(i + 1);
            }
            if (so) {
                bits |= 1 << f.index;
                found.put(f.index, f.odds);
            }
        }
        if (bits > 0) {
            lastWhat = found;
        }
        return bits;
    }

    private static int term(BigInteger above, BigInteger below, int what) {
        BigInteger g = above.gcd(below);
        return (what == 0 ? above : below).divide(g).intValueExact();
    }

    int likely(int f, int what) {
        if (lastWhat == null || !isFault(f) || !lastWhat.containsKey(f) || what < 0 || what > 1) {
            throw new NoSuchElementException();
        }
        int all = lastWhat.values().stream().mapToInt(i -> i).sum();
        return term(BigInteger.valueOf(lastWhat.get(f)), BigInteger.valueOf(all), what);
    }

    private static final int[][] ROWS = {{}, {0}, {1}, {2}, {0, 1}, {0, 2}, {1, 0}, {1, 2}, {2, 0}, {2, 1}, {0, 1, 2},
        {0, 2, 1}, {1, 0, 2}, {1, 2, 0}, {2, 0, 1}, {2, 1, 0}};

    int plan(int t, int set, int what) {
        if (!isThing(t) || what < 0 || what > 1 || set <= 0 || set >= 1 << w.faults.size()) {
            throw new NoSuchElementException();
        }
        List<Fault> some = new ArrayList<>();
        for (Fault f : w.faults) {
            if ((set >> f.index & 1) == 1) {
                some.add(f);
                if (f.thing.index != t) {
                    throw new NoSuchElementException();
                }
            }
        }
        int[] cost = {w.things.get(t).wait + w.things.get(t).boot, 2, 60, 120};
        BigInteger below = BigInteger.valueOf(1728L * some.stream().mapToInt(f -> f.odds).sum());
        BigInteger best = null;
        List<Integer> bestRow = null;
        for (int[] deeds : ROWS) {
            List<Integer> row = new ArrayList<>();
            BigInteger mean = BigInteger.ZERO;
            BigInteger there = below;
            boolean ended = false;
            for (int i = 0; i <= deeds.length; i++) {
                // Of all parts of the ODDS those in which it is still there.
                there = BigInteger.ZERO;
                for (Fault f : some) {
                    BigInteger p = BigInteger.valueOf(f.odds * 1728L);
                    for (int j = 0; j < i; j++) {
                        p = p.multiply(BigInteger.valueOf(12 - f.cures.getOrDefault(DEEDS.get(deeds[j]), 0)))
                                .divide(BigInteger.valueOf(12));
                    }
                    there = there.add(p);
                }
                if (there.signum() == 0) {
                    ended = true;
                    break;
                }
                int step = i < deeds.length ? deeds[i] : 3;
                row.add(step);
                mean = mean.add(there.multiply(BigInteger.valueOf(cost[step])));
            }
            boolean better = best == null || mean.compareTo(best) < 0;
            if (best != null && mean.equals(best)) {
                better = row.toString().compareTo(bestRow.toString()) < 0;
            }
            if (better) {
                best = mean;
                bestRow = row;
            }
            assert ended || row.get(row.size() - 1) == 3;
        }
        lastPlan = bestRow;
        return term(best, below, what);
    }

    int planAt(int k) {
        return lastPlan == null || k < 0 || k >= lastPlan.size() ? NONE : lastPlan.get(k);
    }

    int ready(int t) {
        return isThing(t) ? starts(t) + w.things.get(t).boot : NONE;
    }

    int starts(int t) {
        if (!isThing(t)) {
            return NONE;
        }
        Thing me = w.things.get(t);
        int start = me.wait;
        while (me.behind != null && start + me.boot < ready(me.behind.index)) {
            start++;
        }
        return start;
    }

    int helped() {
        String t = take();
        int n = t.length() / 2;
        if (t.length() % 2 == 1 || n < 2 || n > 10) {
            throw new NoSuchElementException();
        }
        int k = 0;
        int sum = 0;
        for (int i = 0; i < n; i++) {
            if (t.charAt(2 * i) > 1) {
                throw new NoSuchElementException();
            }
            if (t.charAt(2 * i) == 1) {
                k++;
                sum += t.charAt(2 * i + 1);
            }
        }
        if (k == 0 || k == n) {
            throw new NoSuchElementException();
        }
        int[] all = {0, 0};
        choose(t, 0, k, 0, sum, all);
        lots = all[1];
        return all[0];
    }

    private static void choose(String t, int from, int more, int sum, int bound, int[] all) {
        if (more == 0) {
            all[0] += sum <= bound ? 1 : 0;
            all[1]++;
            return;
        }
        for (int i = from; i < t.length() / 2; i++) {
            choose(t, i + 1, more - 1, sum + t.charAt(2 * i + 1), bound, all);
        }
    }

    int lots() {
        return lots;
    }

    int alike(int f) {
        if (!isFault(f)) {
            return NONE;
        }
        int bits = 0;
        Fault me = w.faults.get(f);
        for (Fault g : w.faults) {
            if (g != me && g.thing == me.thing && g.shows == me.shows) {
                bits |= 1 << g.index;
            }
        }
        return bits;
    }

    int kinds() {
        Set<String> kinds = new HashSet<>();
        for (Fault f : w.faults) {
            kinds.add(f.thing.index + "/" + f.shows);
        }
        return kinds.size();
    }

    int look(int set) {
        if (set <= 0 || set >= 1 << w.faults.size()) {
            return NONE;
        }
        int best = NONE;
        int least = 99;
        for (Thing t : w.things) {
            int[] by = new int[19];
            for (Fault f : w.faults) {
                if ((set >> f.index & 1) == 1) {
                    by[f.thing == t ? f.shows : 18]++;
                }
            }
            int most = Arrays.stream(by).max().getAsInt();
            if (most < least) {
                least = most;
                best = t.index;
            }
        }
        left = least;
        return best;
    }

    int left() {
        return left;
    }

    int fits(int t) {
        String lamps = take();
        if (!isThing(t) || lamps.isEmpty() || lamps.length() > 60) {
            return NONE;
        }
        int bits = 0;
        for (int f = 0; f <= 8; f++) {
            if (f < 8 && (!isFault(f) || w.faults.get(f).thing.index != t)) {
                continue;
            }
            World one = w.copy();
            for (Fault g : one.faults) {
                g.there = g.index == f;
                g.age = 0;
            }
            boolean so = true;
            for (int i = 0; i < lamps.length(); i++) {
                so &= one.lamp(one.things.get(t)) == lamps.charAt(i);
                one.minute();
            }
            bits |= so ? 1 << f : 0;
        }
        return bits;
    }

    int heals(int f) {
        if (!isFault(f) || !w.faults.get(f).there || w.faults.get(f).heals == 0) {
            return NONE;
        }
        return w.faults.get(f).heals - w.faults.get(f).age;
    }

    int worksIn(int t) {
        if (!isThing(t)) {
            return NONE;
        }
        World later = w.copy();
        for (int m = 0; m <= 240; m++) {
            if (later.works(later.things.get(t))) {
                return m;
            }
            if (!later.minute()) {
                return NONE;
            }
        }
        return NONE;
    }

    int tell(int i) {
        if (!isThing(i)) {
            return NONE;
        }
        Thing t = w.things.get(i);
        int lamp = w.lamp(t);
        String s;
        if (lamp == 0) {
            s = " is off";
        } else if (lamp == 16) {
            s = " boots " + t.bootsYet;
        } else if (lamp == 17) {
            s = " has no number";
        } else if (lamp == 18) {
            s = w.works(t) ? " works" : " waits";
        } else {
            s = " has " + w.faults.stream().filter(f -> f.there && f.thing == t && f.shows == lamp).findFirst().get().name;
        }
        told = t.name + s;
        return told.length();
    }

    int byteAt(int i) {
        return i < 0 || i >= told.length() ? NONE : told.charAt(i);
    }

    int drawn(int n, int seed) {
        if (n < 1 || n > 60 || w.things.isEmpty()) {
            return NONE;
        }
        World before = w.copy();
        int gone = w.drawn(n, seed);
        return done(before, gone > 0, gone);
    }

    int odds(int t, int n, int seed) {
        if (!isThing(t) || n < 1 || n > 30) {
            return NONE;
        }
        int k = 0;
        for (int i = 0; i < n; i++) {
            World later = w.copy();
            later.drawn(60, seed + i);
            k += later.works(later.things.get(t)) ? 1 : 0;
        }
        return k;
    }

    record Line(String verb, int who, int number) {
    }

    private List<Line> readLog(Tokens in) throws Bad {
        List<Line> lines = new ArrayList<>();
        while (!in.atEnd()) {
            Token first = in.peek();
            boolean act = !first.text.equals("strikes") && !first.text.equals("minute");
            int who = 0;
            if (act) {
                who = thingHere(w, in).index;
            } else {
                in.next();
            }
            if (lines.size() == 40) {
                throw new Bad(4, first.place);
            }
            if (first.text.equals("strikes")) {
                lines.add(new Line("strikes", faultHere(w, in).index, 0));
            } else if (first.text.equals("minute")) {
                lines.add(new Line("minute", 0, in.number(1, 60)));
            } else {
                Token verb = in.next();
                if (!List.of("off", "on", "cable", "pin").contains(verb.text)) {
                    throw new Bad(1, verb.place);
                }
                lines.add(new Line(verb.text, who, verb.text.equals("off") ? 0 : in.number(0, 999)));
            }
            in.must(";");
        }
        return lines;
    }

    int log(int lives) {
        if (lives != 0 && lives != 1) {
            return -1000;
        }
        List<Line> lines;
        try {
            lines = readLog(new Tokens(take(), 400));
        } catch (Bad b) {
            fault = b.kind;
            return -2 - b.place;
        }
        fault = 0;
        World then = w.copy();
        int good = 0;
        int why = 0;
        for (Line l : lines) {
            int r = 0;
            int more = 0;
            Dice d = new Dice(l.number);
            switch (l.verb) {
                case "off":
                    r = then.off(then.things.get(l.who));
                    break;
                case "on":
                    r = then.on(then.things.get(l.who), d);
                    more = 10;
                    break;
                case "cable":
                    r = then.cable(then.things.get(l.who), d);
                    more = 20;
                    break;
                case "pin":
                    r = then.pin(then.things.get(l.who), d);
                    more = 30;
                    break;
                case "strikes":
                    r = then.strike(then.faults.get(l.who));
                    more = 40;
                    break;
                default:
                    if (then.minute + l.number > 1000) {
                        r = 51;
                    } else {
                        for (int i = 0; i < l.number; i++) {
                            then.minute();
                        }
                    }
            }
            if (r != 0) {
                why = r + more;
                break;
            }
            good++;
        }
        logged = new int[] {why, good, then.minute, then.working()};
        if (lives == 1) {
            World before = w;
            w = then;
            done(before, true, 0);
        }
        return why == 0 ? NONE : good;
    }

    int logged(int what) {
        return logged == null || what < 0 || what > 3 ? NONE : logged[what];
    }

    private Saying cond(Tokens in, int deep) throws Bad {
        Saying s = all(in, deep);
        while (in.peek().text.equals("or")) {
            in.next();
            Saying a = s;
            Saying b = all(in, deep);
            s = (h, t) -> a.of(h, t) || b.of(h, t);
        }
        return s;
    }

    private Saying all(Tokens in, int deep) throws Bad {
        Saying s = one(in, deep);
        while (in.peek().text.equals("and")) {
            in.next();
            Saying a = s;
            Saying b = one(in, deep);
            s = (h, t) -> a.of(h, t) && b.of(h, t);
        }
        return s;
    }

    private Saying one(Tokens in, int deep) throws Bad {
        Token first = in.next();
        if (!Set.of("not", "(", "works", "up", "boots", "has", "behind", "lamp", "down", "number").contains(first.text)) {
            throw new Bad(1, first.place);
        }
        ones++;
        if (ones > 20 || deep > 8) {
            throw new Bad(4, first.place);
        }
        switch (first.text) {
            case "not": {
                Saying a = one(in, deep + 1);
                return (h, t) -> !a.of(h, t);
            }
            case "(": {
                Saying a = cond(in, deep + 1);
                in.must(")");
                return a;
            }
            case "works":
                return (h, t) -> h.works(h.things.get(t));
            case "up":
            case "boots":
                return (h, t) -> h.things.get(t).mode.equals(first.text);
            case "has": {
                int f = faultHere(w, in).index;
                return (h, t) -> h.faults.get(f).there && h.faults.get(f).thing.index == t;
            }
            case "behind": {
                int u = thingHere(w, in).index;
                return (h, t) -> h.things.get(t).isBehind(h.things.get(u));
            }
            default: {
                Token sign = in.next();
                if (!sign.text.matches("[<=>]")) {
                    throw new Bad(1, sign.place);
                }
                int n = in.number(0, 999);
                return (h, t) -> {
                    Thing x = h.things.get(t);
                    int v = first.text.equals("lamp") ? h.lamp(x) : first.text.equals("down") ? x.down : t;
                    int c = Integer.compare(v, n);
                    return c == "<=>".indexOf(sign.text) - 1;
                };
            }
        }
    }

    int sentence() {
        ones = 0;
        try {
            Tokens in = new Tokens(take(), 200);
            Saying s = cond(in, 1);
            if (!in.atEnd()) {
                throw new Bad(1, in.peek().place);
            }
            sentence = s;
            fault = 0;
            return ones;
        } catch (Bad b) {
            fault = b.kind;
            return -1 - b.place;
        }
    }

    int said(int k) {
        if (sentence == null) {
            return NONE;
        }
        List<Integer> of = new ArrayList<>();
        for (int t = 0; t < w.things.size(); t++) {
            if (sentence.of(w, t)) {
                of.add(t);
            }
        }
        return k == NONE ? of.size() : k < 0 || k >= of.size() ? NONE : of.get(k);
    }

    boolean image(int k) {
        if (k != 0 && k != 1) {
            return false;
        }
        imageWorld[k] = w.copy();
        imageSentence[k] = sentence;
        return true;
    }

    boolean restore(int k) {
        if (k != 0 && k != 1 || imageWorld[k] == null) {
            return false;
        }
        w = imageWorld[k].copy();
        sentence = imageSentence[k];
        undo.clear();
        return true;
    }

    int count(int what) {
        int[] all = {w.things.size(), w.faults.size(), curesOf(w), tape.length()};
        return what < 0 || what > 3 ? NONE : all[what];
    }
}
