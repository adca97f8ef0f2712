/** Each sentence on what is asked of a HOUSE and of the tape that names an edge. */
public final class AskEdgesTest {
    private static final int[] FAR = {-1, 2, 6, 31, 32, 33, Integer.MIN_VALUE, Integer.MAX_VALUE};
    private static final String ROW = "thing a 3 2;thing b 4 1 behind a;thing d 2 0 behind b;";

    private static final Check c = new Check();

    public static void main(String[] args) {
        whatEdges();
        likelyEdges();
        planRefused();
        planEdges();
        readyEdges();
        helpedRefused();
        helpedEdges();
        alikeEdges();
        lookEdges();
        fitsRefused();
        fitsEdges();
        healsEdges();
        worksInEdges();
        tellEdges();
        oddsEdges();
        c.close();
    }

    private static OffThenOn atMinute(String house, int minute) {
        OffThenOn x = Check.with(house);
        while (x.now(0) < minute) {
            x.minutes(Math.min(60, minute - x.now(0)));
        }
        return x;
    }

    private static int what(OffThenOn x, int... bytes) {
        x.end(0);
        Check.feed(x, bytes);
        return x.what();
    }

    private static int helped(OffThenOn x, int... bytes) {
        x.end(0);
        Check.feed(x, bytes);
        return x.helped();
    }

    private static int fits(OffThenOn x, int t, int... bytes) {
        x.end(0);
        Check.feed(x, bytes);
        return x.fits(t);
    }

    private static int[] repeat(int n, int... bytes) {
        int[] row = new int[n * bytes.length];
        for (int i = 0; i < row.length; i++) {
            row[i] = bytes[i % bytes.length];
        }
        return row;
    }

    private static int[] join(int[] first, int... then) {
        int[] row = new int[first.length + then.length];
        System.arraycopy(first, 0, row, 0, first.length);
        System.arraycopy(then, 0, row, first.length, then.length);
        return row;
    }

    private static void whatEdges() {
        c.says("17: WHAT: NONE: not as told (pairs of bytes; 1 to 6 of them)");
        Seen.tapeTaken(c, "none", x -> what(x), -1);
        Seen.tapeTaken(c, "one byte", x -> what(x, 0), -1);
        Seen.tapeTaken(c, "three bytes", x -> what(x, 0, 18, 0), -1);
        Seen.tapeTaken(c, "eleven bytes", x -> what(x, join(repeat(5, 0, 18), 0)), -1);
        Seen.tapeTaken(c, "thirteen bytes", x -> what(x, join(repeat(6, 0, 18), 0)), -1);
        Seen.tapeTaken(c, "seven pairs", x -> what(x, repeat(7, 0, 18)), -1);
        Seen.tapeTaken(c, "a full tape", x -> what(x, repeat(470, 0, 18)), -1);
        c.says("17: WHAT: NONE: not as told (a THING)");
        Seen.tapeTaken(c, "no such one", x -> what(x, 2, 18), -1);
        Seen.tapeTaken(c, "no such one", x -> what(x, 255, 18), -1);
        Seen.tapeTaken(c, "no such one, the last of six", x -> what(x, join(repeat(5, 0, 18), 2, 18)), -1);
        Seen.tapeTaken(c, "no such one behind lamps that fit none", x -> what(x, 0, 0, 2, 18), -1);
        c.is("an empty house has none", what(new OffThenOn(), 0, 18), -1);
        c.says("17: WHAT: FAULTS, as bits");
        OffThenOn x = Check.with(Seen.HOUSE);
        c.is("one pair", what(x, 0, 3), 1);
        c.is("six pairs", what(x, join(repeat(5, 0, 18), 1, 7)), 2);
        c.is("what it shows, and one more, one less", what(x, 0, 2) + what(x, 0, 4), 0);
        c.is("0, 16, 17", what(x, 0, 0) + what(x, 0, 16) + what(x, 0, 17), 0);
        c.is("well", what(x, 0, 18) * 10 + what(x, 1, 18), 21);
        c.is("all well: none would", what(x, 0, 18, 1, 18), 0);
        c.is("a byte that no lamp shows", what(x, 0, 19) + what(x, 0, 255), 0);
        OffThenOn y = Check.with("thing a 1 0;");
        c.is("no faults", what(y, 0, 18), 0);
        c.says("WHAT: if it alone were there, and all THINGS were UP with their NUMBERS");
        OffThenOn z = Seen.lived();
        c.is("f", what(z, 0, 3), 1);
        c.is("g", what(z, 1, 7, 0, 18), 2);
        c.is("taken", z.count(3), 0);
    }

    private static void likelyEdges() {
        c.says("18: NoSuchElementException: ahead of any");
        OffThenOn x = Check.with("thing a 1 0;fault f a 0 1 1;fault g a 0 99 1;fault h a 0 50 2;");
        what(x, 0, 0);
        what(x, 0);
        c.is("ahead of any above 0", Check.of(() -> x.likely(0, 0)), Check.THROWS);
        c.says("18: LIKELY of a FAULT by the latest what() above 0");
        what(x, 0, 1);
        c.is("f", x.likely(0, 0) * 1000 + x.likely(0, 1), 1100);
        c.is("g", x.likely(1, 0) * 1000 + x.likely(1, 1), 99100);
        what(x, 0, 0);
        what(x, 9, 9);
        c.is("another of 0, or NONE, is none", x.likely(1, 0), 99);
        what(x, 0, 2);
        c.is("one alone is sure", x.likely(2, 0) * 10 + x.likely(2, 1), 11);
        OffThenOn first = Check.with("thing a 1 0;fault f a 0 5 1;fault g a 0 7 2;");
        c.is("the first alone", what(first, 0, 1), 1);
        c.is("is sure", first.likely(0, 0) * 10 + first.likely(0, 1), 11);
        c.is("the other is not of these", Check.of(() -> first.likely(1, 0)), Check.THROWS);
        c.says("18: NoSuchElementException: it is not of these");
        Seen.refused(c, "f", y -> y.likely(0, 0), Check.THROWS);
        c.says("18: NoSuchElementException: no such ones");
        for (int no : FAR) {
            Seen.refused(c, "likely " + no, y -> y.likely(no, 0), Check.THROWS);
        }
        for (int no : new int[] {-1, 2, Integer.MIN_VALUE, Integer.MAX_VALUE}) {
            Seen.refused(c, "likely 1 " + no, y -> y.likely(1, no), Check.THROWS);
        }
        c.says("All fractions are told by two numbers: 0 above, 1 below, in least terms");
        OffThenOn z = Check.with("thing a 1 0;fault f a 0 30 1;fault g a 0 60 1;fault h a 0 90 1;");
        what(z, 0, 1);
        c.is("f", z.likely(0, 0) * 10 + z.likely(0, 1), 16);
        c.is("g", z.likely(1, 0) * 10 + z.likely(1, 1), 13);
        c.is("h", z.likely(2, 0) * 10 + z.likely(2, 1), 12);
    }

    private static void planRefused() {
        c.says("19: NoSuchElementException: no such ones");
        for (int no : FAR) {
            Seen.refused(c, "plan of " + no, x -> x.plan(no, 1, 0), Check.THROWS);
        }
        for (int no : new int[] {4, 5, 256, 1 << 31, -1, -2, Integer.MAX_VALUE}) {
            Seen.refused(c, "plan for " + no, x -> x.plan(0, no, 0), Check.THROWS);
        }
        for (int no : new int[] {-1, 2, Integer.MIN_VALUE, Integer.MAX_VALUE}) {
            Seen.refused(c, "plan with " + no, x -> x.plan(0, 1, no), Check.THROWS);
        }
        c.says("19: NoSuchElementException: none of them");
        Seen.refused(c, "plan of a for none", x -> x.plan(0, 0, 0), Check.THROWS);
        Seen.refused(c, "plan of b for none", x -> x.plan(1, 0, 1), Check.THROWS);
        c.says("19: NoSuchElementException: one is not of this THING");
        Seen.refused(c, "g is not of a", x -> x.plan(0, 2, 0), Check.THROWS);
        Seen.refused(c, "one of two is not of a", x -> x.plan(0, 3, 0), Check.THROWS);
        Seen.refused(c, "one of two is not of b", x -> x.plan(1, 3, 1), Check.THROWS);
        c.says("20: NONE: none such, or ahead of any");
        OffThenOn x = Check.with(Seen.HOUSE);
        Check.of(() -> x.plan(0, 2, 0));
        for (int k = -1; k < 5; k++) {
            c.is("ahead of any", x.planAt(k), -1);
        }
        x.plan(0, 1, 1);
        int[] due = {-1, 0, 3, -1, -1};
        for (int k = -1; k < 4; k++) {
            c.is("planAt " + k, x.planAt(k), due[k + 1]);
        }
        c.is("far", x.planAt(Integer.MIN_VALUE) + x.planAt(Integer.MAX_VALUE), -2);
        x.plan(1, 2, 0);
        c.is("a shorter one", x.planAt(0) * 10 + x.planAt(1), 9);
    }

    private static void plan(String lines, int set, int above, int below, int... row) {
        OffThenOn x = Check.with(lines);
        c.is(lines + " mean", x.plan(0, set, 0), above);
        c.is(lines + " parts", x.plan(0, set, 1), below);
        for (int k = 0; k <= 4; k++) {
            c.is(lines + " row " + k, x.planAt(k), k < row.length ? row[k] : -1);
        }
    }

    private static void planEdges() {
        c.says("PLAN: then, if it may still be there, a call");
        plan("thing a 1 0;fault f a 0 1 1;", 1, 120, 1, 3);
        plan("thing a 1 0;fault f a 0 1 1;cures f off 11;", 1, 11, 1, 0, 3);
        c.says("PLAN: where it is surely gone the row ends without");
        plan("thing a 1 0;fault f a 0 1 1;cures f off 12;", 1, 1, 1, 0);
        plan("thing a 1 0;fault f a 0 1 1;fault g a 0 1 1;cures f off 12;", 3, 61, 1, 0, 3);
        plan("thing a 1 0;fault f a 0 1 1;fault g a 0 1 1;cures f off 12;cures g cable 12;", 3, 2, 1, 0, 1);
        plan("thing a 30 20;fault f a 0 1 1;fault g a 0 1 1;fault h a 0 1 1;cures f off 12;cures g cable 12;cures h pin 12;", 7,
                166, 3, 1, 0, 2);
        c.says("PLAN: each once at most");
        plan("thing a 1 0;fault f a 0 1 1;cures f off 6;", 1, 61, 1, 0, 3);
        plan("thing a 30 20;fault f a 0 1 1;cures f off 11;cures f cable 11;cures f pin 11;", 1, 479, 72, 1, 0, 2, 3);
        c.says("PLAN: 'off' is for WAIT and BOOT MINUTES, 'cable' 2, 'pin' 60, the call 120");
        plan("thing a 30 20;fault f a 0 1 1;cures f off 12;", 1, 50, 1, 0);
        plan("thing a 1 0;fault f a 0 1 1;cures f cable 12;", 1, 2, 1, 1);
        plan("thing a 1 0;fault f a 0 1 1;cures f pin 12;", 1, 60, 1, 2);
        c.says("PLAN: for the fewest MINUTES in the mean (by ODDS)");
        plan("thing a 2 0;fault f a 0 99 1;fault g a 0 1 1;cures f cable 12;cures g off 12;", 3, 101, 50, 1, 0);
        plan("thing a 2 0;fault f a 0 1 1;fault g a 0 99 1;cures f cable 12;cures g off 12;", 3, 101, 50, 0, 1);
        plan("thing a 1 0;fault f a 0 99 1;fault g a 0 1 1;cures f cable 12;cures g off 12;", 1, 2, 1, 1);
        c.says("PLAN: of like ones the first: DEED by DEED the least");
        plan("thing a 2 0;fault f a 0 1 1;cures f off 12;cures f cable 12;", 1, 2, 1, 0);
        plan("thing a 30 20;fault f a 0 1 1;cures f pin 6;", 1, 120, 1, 2, 3);
        plan("thing a 1 1;fault f a 0 1 1;fault g a 0 1 1;cures f off 12;cures g cable 12;", 3, 3, 1, 0, 1);
        plan("thing a 10 0;fault f a 0 1 1;cures f off 1;", 1, 120, 1, 0, 3);
        plan("thing a 10 1;fault f a 0 1 1;cures f off 1;", 1, 120, 1, 3);
        c.says("PLAN: the largest numbers that a HOUSE can have");
        StringBuilder big = new StringBuilder("thing a 30 20;");
        for (int i = 0; i < 8; i++) {
            big.append("fault f").append((char) ('a' + i)).append(" a 0 99 1;");
        }
        plan(big.toString(), 255, 120, 1, 3);
        plan(big + "cures fa off 1;cures fb cable 1;cures fc pin 1;", 255, 120, 1, 3);
        plan(big + "cures fa cable 2;", 255, 239, 2, 1, 3);
    }

    private static void readyEdges() {
        for (int no : FAR) {
            c.says("21: NONE: no such one");
            Seen.refused(c, "ready " + no, x -> x.ready(no), -1);
            c.says("22: NONE: no such one");
            Seen.refused(c, "starts " + no, x -> x.starts(no), -1);
        }
        c.is("none in an empty house", new OffThenOn().ready(0) + new OffThenOn().starts(0), -2);
        c.says("READY: each ON as soon as its WAIT is over and it may get its NUMBER");
        OffThenOn x = Check.with("thing a 1 0;thing b 30 20 behind a;thing d 1 0 behind b;thing e 30 20;thing g 30 20 behind e;");
        int[] ready = {1, 50, 50, 50, 50};
        int[] starts = {0, 20, 49, 20, 20};
        for (int t = 0; t < 5; t++) {
            c.is("ready " + t, x.ready(t), ready[t]);
            c.is("starts " + t, x.starts(t), starts[t]);
        }
        c.says("STARTS: (as soon as may be): a MINUTE earlier it is too early for its WAIT or its NUMBER");
        for (int t = 0; t < 3; t++) {
            for (int early = 0; early < 2; early++) {
                OffThenOn y = Check.with(ROW);
                c.is("works by its READY " + t + " " + early, worksByReady(y, t, early), early == 0);
            }
        }
    }

    /** All are switched ON as STARTS tells, one of them so many MINUTES early. */
    private static boolean worksByReady(OffThenOn x, int t, int early) {
        int ready = x.ready(t);
        for (int u = 0; u < 3; u++) {
            x.off(u);
        }
        for (int m = 0; m < ready; m++) {
            for (int u = 0; u < 3; u++) {
                if (m == x.starts(u) - (u == t ? early : 0)) {
                    x.on(u, 0);
                }
            }
            x.minutes(1);
        }
        return x.thing(t, 7) == 1;
    }

    private static void helpedRefused() {
        c.says("23: NoSuchElementException: not as told (the tape is empty then, too)");
        Seen.tapeTaken(c, "none", x -> helped(x), Check.THROWS);
        Seen.tapeTaken(c, "one byte", x -> helped(x, 1), Check.THROWS);
        Seen.tapeTaken(c, "one pair", x -> helped(x, 1, 5), Check.THROWS);
        Seen.tapeTaken(c, "three bytes", x -> helped(x, 1, 5, 0), Check.THROWS);
        Seen.tapeTaken(c, "five bytes", x -> helped(x, 1, 5, 0, 5, 0), Check.THROWS);
        Seen.tapeTaken(c, "21 bytes", x -> helped(x, join(repeat(5, 1, 5, 0, 5), 0)), Check.THROWS);
        Seen.tapeTaken(c, "eleven pairs", x -> helped(x, join(repeat(5, 1, 5, 0, 5), 0, 5)), Check.THROWS);
        Seen.tapeTaken(c, "a full tape", x -> helped(x, repeat(235, 1, 5, 0, 5)), Check.THROWS);
        c.says("HELPED: one of each sort at least");
        Seen.tapeTaken(c, "two of the first", x -> helped(x, 1, 5, 1, 5), Check.THROWS);
        Seen.tapeTaken(c, "two of the other", x -> helped(x, 0, 5, 0, 5), Check.THROWS);
        Seen.tapeTaken(c, "ten of the first", x -> helped(x, repeat(10, 1, 5)), Check.THROWS);
        Seen.tapeTaken(c, "ten of the other", x -> helped(x, repeat(10, 0, 5)), Check.THROWS);
        c.says("HELPED: 1 off and on was done, 0 it was not");
        Seen.tapeTaken(c, "2", x -> helped(x, 1, 5, 0, 5, 2, 5), Check.THROWS);
        Seen.tapeTaken(c, "255", x -> helped(x, 1, 5, 255, 5), Check.THROWS);
        Seen.tapeTaken(c, "2 and 0", x -> helped(x, 2, 5, 0, 5, 0, 5), Check.THROWS);
        c.says("24: NONE ahead of any");
        OffThenOn x = new OffThenOn();
        c.is("ahead of any", x.lots(), -1);
        c.is("not as told", Check.of(() -> helped(x, 1, 5)), Check.THROWS);
        c.is("ahead of any that was", x.lots(), -1);
        helped(x, 1, 5, 0, 6);
        c.is("two ways", x.lots(), 2);
        c.is("not as told", Check.of(() -> helped(x, 1, 5)), Check.THROWS);
        c.is("the latest that was", x.lots(), 2);
    }

    private static void helpedEdges() {
        OffThenOn x = new OffThenOn();
        c.says("HELPED: 2 to 10 of them");
        c.is("two", helped(x, 0, 6, 1, 5) * 1000 + x.lots(), 1002);
        c.is("ten", helped(x, repeat(5, 1, 5, 0, 5)) * 1000 + x.lots(), 252252);
        c.is("ten, one of the first", helped(x, join(repeat(9, 0, 6), 1, 5)) * 1000 + x.lots(), 1010);
        c.is("ten, nine of the first", helped(x, join(repeat(9, 1, 6), 0, 5)) * 1000 + x.lots(), 10010);
        c.is("the tape is taken", x.count(3), 0);
        c.says("HELPED: by how many the MINUTES of these in all are as few as they were, or fewer");
        c.is("as it was is one of them", helped(x, 1, 0, 0, 1), 1);
        c.is("as few", helped(x, 1, 1, 0, 1), 2);
        c.is("fewer", helped(x, 1, 2, 0, 1), 2);
        c.is("no MINUTES", helped(x, 1, 0, 0, 0), 2);
        c.is("the most MINUTES", helped(x, 1, 255, 0, 254) * 10 + helped(x, 1, 254, 0, 255), 21);
        c.is("128 is above 127", helped(x, 1, 128, 0, 127) * 10 + helped(x, 1, 127, 0, 128), 21);
        c.is("in all", helped(x, 1, 3, 1, 3, 0, 2, 0, 4), 4);
        c.is("sums above a byte", helped(x, 1, 200, 1, 200, 0, 100, 0, 255), 4);
    }

    private static void alikeEdges() {
        c.says("25: NONE: no such one");
        for (int no : FAR) {
            Seen.refused(c, "alike " + no, x -> x.alike(no), -1);
        }
        c.is("none in an empty house", new OffThenOn().alike(0), -1);
        c.says("25: FAULTS like a FAULT (itself not)");
        OffThenOn x = Check.with("thing a 1 0;thing b 1 0;fault f a 0 1 3;fault g b 0 1 3;fault h a 0 1 4;fault i a 5 9 3;");
        c.is("f", x.alike(0), 8);
        c.is("g", x.alike(1), 0);
        c.is("h", x.alike(2), 0);
        c.is("i", x.alike(3), 1);
        c.says("26: kinds, of none and of the most");
        c.is("of none", new OffThenOn().kinds(), 0);
        c.is("no faults", Check.with("thing a 1 0;").kinds(), 0);
        c.is("three", x.kinds(), 3);
        c.is("eight of one kind", Check.with(eight(false)).kinds(), 1);
        c.is("eight kinds", Check.with(eight(true)).kinds(), 8);
        c.is("seven alike", Check.with(eight(false)).alike(7), 127);
    }

    private static String eight(boolean unlike) {
        StringBuilder s = new StringBuilder("thing a 1 0;");
        for (int i = 0; i < 8; i++) {
            s.append("fault f").append((char) ('a' + i)).append(" a 0 1 ").append(unlike ? i + 1 : 1).append(';');
        }
        return s.toString();
    }

    private static void lookEdges() {
        c.says("27: NONE: none of them");
        Seen.refused(c, "look 0", x -> x.look(0), -1);
        c.says("27: NONE: no such ones");
        for (int no : new int[] {4, 5, 7, 256, -1, Integer.MIN_VALUE, Integer.MAX_VALUE}) {
            Seen.refused(c, "look " + no, x -> x.look(no), -1);
        }
        OffThenOn e = new OffThenOn();
        c.is("none in an empty house", e.look(1) + e.look(0), -2);
        c.says("28: NONE ahead of any");
        c.is("ahead of any that was not NONE", e.left(), -1);
        c.says("28: by the latest look() that was not NONE");
        OffThenOn x = Check.with(eight(false) + "thing b 1 0;");
        c.is("all eight", x.look(255) * 10 + x.left(), 8);
        c.is("one", x.look(128) * 10 + x.left(), 1);
        c.is("none such", x.look(256), -1);
        c.is("stays", x.left(), 1);
        c.is("eight kinds", Check.with(eight(true)).look(255), 0);
        c.says("LOOK in a HOUSE of 6 THINGS");
        OffThenOn six = Check.with("thing a 1 0;thing b 1 0;thing c 1 0;thing d 1 0;thing e 1 0;thing i 1 0;fault f i 0 1 3;fault g i 0 1 4;");
        c.is("the last tells them apart", six.look(3) * 10 + six.left(), 51);
        c.says("LOOK: of like ones the first");
        OffThenOn y = Check.with("thing a 1 0;thing b 1 0;thing d 1 0;fault f b 0 1 3;fault g d 0 1 3;fault h d 0 1 4;");
        c.is("b tells f and g apart as d does", y.look(3) * 10 + y.left(), 11);
        c.is("a tells nothing of one", y.look(1) * 10 + y.left(), 1);
        c.says("LOOK: the greatest number of them that may still be left is the least (those not of it look alike)");
        c.is("d tells three apart", y.look(7) * 10 + y.left(), 21);
        c.is("d tells two apart", y.look(6) * 10 + y.left(), 21);
    }

    private static void fitsRefused() {
        c.says("29: NONE: not as told (1 to 60 bytes)");
        Seen.tapeTaken(c, "none", x -> fits(x, 0), -1);
        Seen.tapeTaken(c, "61", x -> fits(x, 0, repeat(61, 16)), -1);
        Seen.tapeTaken(c, "a full tape", x -> fits(x, 0, repeat(940, 16)), -1);
        c.says("29: NONE: no such one");
        for (int no : FAR) {
            Seen.tapeTaken(c, "fits " + no, x -> fits(x, no, 16), -1);
        }
        c.is("none in an empty house", fits(new OffThenOn(), 0, 18), -1);
    }

    private static void fitsEdges() {
        c.says("FITS: by the tape (1 to 60 bytes)");
        String house = "thing a 1 0;fault f a 59 1 3;fault g a 60 1 3;fault h a 0 1 3;fault i a 1 1 4;";
        OffThenOn x = Check.with(house);
        c.is("one", fits(x, 0, 3), 7);
        c.is("60: f is gone by the last", fits(x, 0, join(repeat(59, 3), 18)), 1);
        c.is("60: g and h are not", fits(x, 0, repeat(60, 3)), 6);
        c.is("AGE 0 now, gone a MINUTE later", fits(x, 0, 4, 18), 8);
        c.is("taken", x.count(3), 0);
        c.says("FITS: bit 8: it would, if none were there");
        c.is("well", fits(x, 0, repeat(60, 18)), 256);
        c.is("then not", fits(x, 0, join(repeat(59, 18), 17)), 0);
        c.is("without faults", fits(Check.with("thing a 1 0;"), 0, 18), 256);
        c.is("a byte that no lamp shows", fits(x, 0, 19) + fits(x, 0, 255), 0);
        c.says("FITS: which of its FAULTS");
        OffThenOn y = Check.with("thing a 1 0;thing b 1 0;fault f b 0 1 3;");
        c.is("f is not of a", fits(y, 0, 18), 256);
        c.is("f is of b", fits(y, 1, 3), 1);
        c.is("all eight", fits(Check.with(eight(false)), 0, 1), 255);
        c.is("the eighth", fits(Check.with(eight(true)), 0, 8), 128);
        y.off(1);
        c.is("OFF all fit", fits(y, 1, 0, 0), 257);
        c.says("FITS: if it alone were there from now on (AGE 0)");
        OffThenOn z = Check.with(house);
        z.strike(2);
        z.strike(0);
        z.minutes(5);
        c.is("none of those that are there", fits(z, 0, 18), 256);
        c.is("not their AGE", fits(z, 0, join(repeat(59, 3), 18)), 1);
        c.is("they are there yet", z.now(3) * 10 + z.trouble(0, 5), 55);
        c.says("FITS: behind MINUTE 1000 all stays as it is");
        OffThenOn w = atMinute(house, 1000);
        c.is("it never heals", fits(w, 0, 4, 4), 8);
        OffThenOn v = atMinute(house, 999);
        c.is("it heals in the last", fits(v, 0, join(new int[] {4}, repeat(59, 18))), 8);
        OffThenOn u = atMinute("thing a 2 0;fault f a 3 1 5;", 998);
        u.pin(0, 0);
        c.is("it is up by 1000, and does not heal", fits(u, 0, join(new int[] {16, 16}, repeat(58, 5))), 1);
        OffThenOn s = atMinute("thing a 3 0;fault f a 3 1 5;", 998);
        s.pin(0, 0);
        c.is("it boots for ever", fits(s, 0, repeat(60, 16)), 257);
    }

    private static void healsEdges() {
        c.says("30: NONE: no such one");
        for (int no : FAR) {
            Seen.refused(c, "heals " + no, x -> x.heals(no), -1);
        }
        c.is("none in an empty house", new OffThenOn().heals(0), -1);
        c.says("30: NONE: it is not there");
        OffThenOn x = Check.with("thing a 1 0;fault f a 1 1 1;fault g a 200 1 1;fault h a 0 1 1;cures g cable 12;");
        c.is("not there", x.heals(0) + x.heals(1) + x.heals(2), -3);
        c.says("30: In how many MINUTES a FAULT will be gone by itself");
        x.strike(0);
        x.strike(1);
        x.strike(2);
        c.is("the fewest, the most", x.heals(0) * 1000 + x.heals(1), 1200);
        c.says("30: NONE: never");
        c.is("never", x.heals(2), -1);
        x.minutes(1);
        c.is("gone by itself", x.heals(0), -1);
        c.is("one less", x.heals(1), 199);
        x.cable(0, 0);
        c.is("gone by a deed", x.heals(1), -1);
    }

    private static void worksInEdges() {
        c.says("31: NONE: no such one");
        for (int no : FAR) {
            Seen.refused(c, "worksIn " + no, x -> x.worksIn(no), -1);
        }
        c.is("none in an empty house", new OffThenOn().worksIn(0), -1);
        c.says("31: 0: it does");
        c.is("works", Check.with(ROW).worksIn(2), 0);
        c.is("works at the end", atMinute(ROW, 1000).worksIn(2), 0);
        c.says("31: NONE: not in 240");
        // HEALS is 200 at most, BOOT 30: what does not work by then never does.
        OffThenOn x = Check.with("thing a 30 0;fault f a 200 1 1;");
        x.strike(0);
        c.is("200", x.worksIn(0), 200);
        x.pin(0, 0);
        c.is("200 though it boots", x.worksIn(0), 200);
        x.off(0);
        c.is("off for ever", x.worksIn(0), -1);
        OffThenOn y = Check.with("thing a 1 0;fault f a 0 1 1;");
        y.strike(0);
        c.is("never healed", y.worksIn(0), -1);
        c.says("31: nor by MINUTE 1000");
        for (int left = 0; left <= 6; left++) {
            OffThenOn z = atMinute("thing a 5 0;", 1000 - left);
            z.pin(0, 0);
            c.is("boots for 5, left are " + left, z.worksIn(0), left < 5 ? -1 : 5);
            c.is("all stays", z.now(0) * 10 + z.thing(0, 4), (1000 - left) * 10 + 5);
        }
    }

    private static void tellEdges() {
        c.says("32: NONE: no such one");
        for (int no : FAR) {
            Seen.refused(c, "tell " + no, x -> x.tell(no), -1);
        }
        c.is("none in an empty house", new OffThenOn().tell(0), -1);
        c.says("33: NONE: none such");
        OffThenOn x = Check.with("thing a 30 0;thing abcdefg 1 0 behind a;fault hijklmn abcdefg 0 1 15;fault o abcdefg 0 1 15;");
        c.is("ahead of any", x.byteAt(0), -1);
        c.is("how many", x.tell(0), 7);
        c.is("the last", x.byteAt(6), (int) 's');
        for (int no : new int[] {-1, 7, 8, 32, Integer.MIN_VALUE, Integer.MAX_VALUE}) {
            c.is("byte " + no, x.byteAt(no), -1);
        }
        c.says("32: how many bytes, of each sort");
        c.is("works", Check.told(x, 1), "abcdefg works");
        x.strike(1);
        c.is("has", Check.told(x, 1), "abcdefg has o");
        x.strike(0);
        c.is("the first that shows most", Check.told(x, 1), "abcdefg has hijklmn");
        x.off(0);
        c.is("a shorter one", x.tell(0), 8);
        c.is("nothing is left of a longer one", x.byteAt(8), -1);
        c.is("off", Check.told(x, 0), "a is off");
        c.is("a fault comes ahead of no number", Check.told(x, 1), "abcdefg has hijklmn");
        OffThenOn y = Check.with("thing a 30 0;thing abcdefg 1 0 behind a;fault f a 0 1 1;");
        y.strike(0);
        c.is("waits", Check.told(y, 1), "abcdefg waits");
        y.off(0);
        c.is("no number", Check.told(y, 1), "abcdefg has no number");
        c.says("TELL: the FAULT of its FAULTS that are there");
        OffThenOn z = Check.with("thing a 1 0;thing b 1 0;fault f b 0 1 1;fault g a 0 1 1;fault h a 0 1 2;fault i a 0 1 2;");
        z.strike(0);
        c.is("one that shows 1", Check.told(z, 1), "b has f");
        z.strike(1);
        c.is("of its own", Check.told(z, 0), "a has g");
        z.strike(3);
        c.is("the one that shows more", Check.told(z, 0), "a has i");
        z.strike(2);
        c.is("the first of like ones", Check.told(z, 0), "a has h");
        c.says("TELL: ' boots ' and MINUTES as digits");
        y.on(0, 0);
        c.is("30", Check.told(y, 0), "a boots 30");
        y.minutes(20);
        c.is("10", Check.told(y, 0), "a boots 10");
        y.minutes(1);
        c.is("9", Check.told(y, 0), "a boots 9");
        y.minutes(8);
        c.is("1", Check.told(y, 0), "a boots 1");
    }

    private static void oddsEdges() {
        c.says("35: NONE: no such ones");
        for (int no : FAR) {
            Seen.refused(c, "odds of " + no, x -> x.odds(no, 1, 1), -1);
        }
        for (int no : new int[] {0, -1, 31, Integer.MIN_VALUE, Integer.MAX_VALUE}) {
            Seen.refused(c, "odds by " + no, x -> x.odds(0, no, 1), -1);
        }
        c.is("none in an empty house", new OffThenOn().odds(0, 1, 1), -1);
        c.says("35: all stays as it is");
        OffThenOn p = Seen.lived();
        OffThenOn q = Seen.lived();
        p.odds(0, 30, 5);
        c.is("all", Seen.all(p), Seen.all(q));
        c.is("what can be undone", p.undo(), q.undo());
        c.says("35: Of n (1 to 30) seeds x, x and 1, .. (an int, wrapping)");
        OffThenOn x = Check.with(Seen.HOUSE);
        for (int first : new int[] {0, -15, Integer.MAX_VALUE, Integer.MAX_VALUE - 14, Integer.MIN_VALUE}) {
            int working = 0;
            for (int i = 0; i < 30; i++) {
                OffThenOn y = Check.with(Seen.HOUSE);
                y.drawn(60, first + i);
                working += y.thing(0, 7);
                if (i == 0) {
                    c.is("by one seed " + first, x.odds(0, 1, first), working);
                }
            }
            c.is("by 30 from " + first, x.odds(0, 30, first), working);
        }
        c.says("35: behind 60 MINUTES DRAWN from now on, or as many as are left");
        OffThenOn end = atMinute(Seen.HOUSE, 1000);
        c.is("all work at the end", end.odds(1, 30, 1), 30);
        end.off(0);
        c.is("none works at the end", end.odds(1, 30, 1), 0);
    }
}
