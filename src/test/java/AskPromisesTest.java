/** Promises 17 to 33 and 35: what is asked of a HOUSE and of the tape. */
public final class AskPromisesTest {
    private static final String HOUSE = "thing wall 3 2;thing box 4 1 behind wall;thing tv 2 0 behind box;thing pc 1 20;"
            + "fault hung box 30 6 3;fault cord box 0 3 5;fault street wall 90 2 3;fault dust tv 0 1 5;fault worm box 7 9 3;"
            + "cures hung off 12;cures hung pin 6;cures cord cable 12;cures cord pin 3;cures worm off 6;";

    private static final Check c = new Check();

    public static void main(String[] args) {
        what();
        likely();
        plan();
        planOfLikeOnes();
        ready();
        helped();
        alike();
        look();
        fits();
        fitsAtTheEnd();
        heals();
        worksIn();
        tell();
        odds();
        c.close();
    }

    private static int what(OffThenOn x, int... bytes) {
        Check.feed(x, bytes);
        int found = x.what();
        c.is("the tape is taken", x.count(3), 0);
        return found;
    }

    private static void what() {
        OffThenOn x = Check.with(HOUSE);
        c.is("box 3", what(x, 1, 3), 0b10001);
        c.is("box 5", what(x, 1, 5), 0b00010);
        c.is("box well", what(x, 1, 18), 0b01100);
        c.is("box well, tv 5", what(x, 1, 18, 2, 5), 0b01000);
        c.is("pc well", what(x, 3, 18), 0b11111);
        c.is("pc off", what(x, 3, 0), 0);
        c.is("one twice", what(x, 1, 3, 1, 3), 0b10001);
        c.is("one in two ways", what(x, 1, 3, 1, 5), 0);
        c.is("six", what(x, 0, 18, 1, 3, 2, 18, 3, 18, 0, 18, 1, 3), 0b10001);
        c.is("seven", what(x, 0, 18, 1, 3, 2, 18, 3, 18, 0, 18, 1, 3, 0, 18), -1);
        c.is("none", what(x), -1);
        c.is("odd", what(x, 1), -1);
        c.is("odd", what(x, 1, 3, 1), -1);
        c.is("no thing", what(x, 4, 18), -1);
        c.is("no thing behind one that fits none", what(x, 3, 0, 255, 18), -1);
        x.off(1);
        x.strike(3);
        c.is("as if all were well", what(x, 1, 3), 0b10001);
    }

    private static void likely() {
        OffThenOn x = Check.with(HOUSE);
        c.is("ahead of any", Check.of(() -> x.likely(0, 0)), Check.THROWS);
        what(x, 1, 3);
        c.is("hung above", x.likely(0, 0), 2);
        c.is("hung below", x.likely(0, 1), 5);
        c.is("worm above", x.likely(4, 0), 3);
        c.is("worm below", x.likely(4, 1), 5);
        c.is("not of these", Check.of(() -> x.likely(1, 0)), Check.THROWS);
        c.is("none such", Check.of(() -> x.likely(-1, 0)), Check.THROWS);
        c.is("none such", Check.of(() -> x.likely(5, 0)), Check.THROWS);
        c.is("none such", Check.of(() -> x.likely(36, 0)), Check.THROWS);
        c.is("no such what", Check.of(() -> x.likely(0, 2)), Check.THROWS);
        c.is("no such what", Check.of(() -> x.likely(0, -1)), Check.THROWS);
        what(x, 3, 0);
        what(x);
        c.is("a what() of 0 or NONE leaves it", x.likely(0, 1), 5);
        what(x, 1, 5);
        c.is("one alone", x.likely(1, 0) * 10 + x.likely(1, 1), 11);
        OffThenOn y = Check.with("thing a 1 0;thing b 1 0;fault f a 0 4 1;fault g b 0 6 1;");
        what(y, 0, 18);
        what(y, 0, 1);
        c.is("fault 0 alone", y.likely(0, 0) * 10 + y.likely(0, 1), 11);
        Check.house(y, "thing a 1 0;fault f a 0 9 1;fault g a 0 9 1;");
        c.is("what was told last stays", y.likely(0, 0), 1);
    }

    private static void plan(OffThenOn x, int t, int set, int above, int below, int... row) {
        String of = "plan of " + t + ", " + set;
        c.is(of + " above", Check.of(() -> x.plan(t, set, 0)), above);
        c.is(of + " below", Check.of(() -> x.plan(t, set, 1)), below);
        for (int k = 0; k < row.length; k++) {
            c.is(of + " row " + k, x.planAt(k), row[k]);
        }
        c.is(of + " no more", x.planAt(row.length), -1);
        c.is(of + " -1", x.planAt(-1), -1);
    }

    private static void plan() {
        OffThenOn x = Check.with(HOUSE);
        c.is("ahead of any", x.planAt(0), -1);
        plan(x, 1, 1, 5, 1, 0);
        plan(x, 1, 2, 2, 1, 1);
        plan(x, 1, 3, 16, 3, 1, 0);
        plan(x, 0, 4, 120, 1, 3);
        // worm: off for 5, then the call in one half: 65.
        plan(x, 1, 16, 65, 1, 0, 3);
        // hung 6, cord 3, worm 9: off 5, of 7.5/18 cable 2, of 4.5/18 the call 120: 645/18.
        plan(x, 1, 19, 215, 6, 0, 1, 3);
        for (int[] no : new int[][] {{-1, 1, 0}, {4, 1, 0}, {1, 0, 0}, {1, 4, 0}, {1, 5, 0}, {1, 32, 0}, {1, -1, 0}, {1, 1, 2},
            {1, 1, -1}, {3, 0, 0}}) {
            c.is("no plan " + no[0] + " " + no[1] + " " + no[2], Check.of(() -> x.plan(no[0], no[1], no[2])), Check.THROWS);
            c.is("the latest stays", x.planAt(1), 1);
        }
        // 'pin' for 60 makes it surely gone, the call would be for 120.
        plan(Check.with("thing a 1 0;fault f a 0 1 1;cures f pin 12;"), 0, 1, 60, 1, 2);
        // A 'pin' that helps in 6 of 12 is for 60 and half of 120: like the call, and the first.
        plan(Check.with("thing a 1 0;fault f a 0 1 1;cures f pin 6;"), 0, 1, 120, 1, 2, 3);
        plan(Check.with("thing a 1 0;fault f a 0 1 1;cures f pin 5;"), 0, 1, 120, 1, 3);
        // All three, in twelfths of twelfths of twelfths: 3, 2/3 * 2, 5/9 * 60, 5/36 * 120.
        plan(Check.with("thing a 1 2;fault f a 0 1 1;cures f pin 9;cures f off 4;cures f cable 2;"), 0, 1, 163, 3, 0, 1, 2, 3);
    }

    private static void planOfLikeOnes() {
        // 'off' and 'cable' are both for 2 MINUTES and help alike: 0 comes first.
        plan(Check.with("thing a 1 1;fault f a 0 1 1;cures f cable 6;cures f off 6;"), 0, 1, 33, 1, 0, 1, 3);
        plan(Check.with("thing a 1 1;fault f a 0 1 1;fault g a 0 1 1;cures f cable 12;cures g off 12;"), 0, 3, 3, 1, 0, 1);
        plan(Check.with("thing a 1 1;fault f a 0 1 1;fault g a 0 2 1;cures f off 12;cures g cable 12;"), 0, 3, 8, 3, 1, 0);
    }

    private static void ready() {
        OffThenOn x = Check.with("thing a 3 2;thing b 4 1 behind a;thing c 2 0 behind b;thing d 9 1 behind c;thing e 1 4 behind d;thing f 1 20;");
        int[] ready = {5, 5, 5, 10, 10, 21};
        int[] starts = {2, 1, 3, 1, 9, 20};
        for (int t = 0; t < 6; t++) {
            c.is("ready " + t, x.ready(t), ready[t]);
            c.is("starts " + t, x.starts(t), starts[t]);
        }
        for (int no : new int[] {-1, 6, Integer.MAX_VALUE}) {
            c.is("ready " + no, x.ready(no), -1);
            c.is("starts " + no, x.starts(no), -1);
        }
        // What is asked comes true, if it is done so.
        for (int t = 0; t < 6; t++) {
            x.off(t);
        }
        for (int m = 0; m <= 21; m++) {
            for (int t = 0; t < 6; t++) {
                if (m == ready[t]) {
                    c.is("up with its number " + t, x.thing(t, 7), 1);
                }
                if (m == starts[t]) {
                    c.is("on " + t, x.on(t, 0), 0);
                }
            }
            x.minutes(1);
        }
    }

    private static int helped(OffThenOn x, int... bytes) {
        Check.feed(x, bytes);
        int few = Check.of(x::helped);
        c.is("the tape is taken", x.count(3), 0);
        return few;
    }

    private static void helped() {
        OffThenOn x = new OffThenOn();
        c.is("ahead of any", x.lots(), -1);
        c.is("none", helped(x), Check.THROWS);
        c.is("one", helped(x, 1, 5), Check.THROWS);
        c.is("ahead of any that was as told", x.lots(), -1);
        c.is("two", helped(x, 1, 5, 0, 6), 1);
        c.is("two ways", x.lots(), 2);
        c.is("two alike", helped(x, 1, 5, 0, 5), 2);
        c.is("it did not help", helped(x, 0, 5, 1, 6), 2);
        c.is("bytes are not below 0", helped(x, 1, 255, 0, 1), 2);
        c.is("four", helped(x, 1, 5, 0, 9, 1, 7, 0, 8), 1);
        c.is("six ways", x.lots(), 6);
        c.is("ten", helped(x, 1, 1, 1, 2, 1, 3, 1, 4, 1, 6, 0, 5, 0, 7, 0, 8, 0, 9, 0, 10), 2);
        c.is("252 ways", x.lots(), 252);
        c.is("eleven", helped(x, 1, 1, 1, 2, 1, 3, 1, 4, 1, 6, 0, 5, 0, 7, 0, 8, 0, 9, 0, 10, 0, 11), Check.THROWS);
        c.is("one sort", helped(x, 1, 1, 1, 2), Check.THROWS);
        c.is("other sort", helped(x, 0, 1, 0, 2), Check.THROWS);
        c.is("a third sort", helped(x, 0, 1, 1, 2, 2, 3), Check.THROWS);
        c.is("a third sort", helped(x, 0, 1, 0, 2, 0, 7, 2, 3), Check.THROWS);
        c.is("a third sort", helped(x, 0, 1, 0, 2, 1, 7, 255, 3), Check.THROWS);
        c.is("21 bytes", helped(x, 1, 1, 1, 2, 1, 3, 1, 4, 1, 6, 0, 5, 0, 7, 0, 8, 0, 9, 0, 10, 0), Check.THROWS);
        c.is("odd", helped(x, 0, 1, 1, 2, 1), Check.THROWS);
        c.is("the latest stays", x.lots(), 252);
    }

    private static void alike() {
        OffThenOn x = Check.with(HOUSE);
        int[] alike = {16, 0, 0, 0, 1};
        for (int f = 0; f < 5; f++) {
            c.is("alike " + f, x.alike(f), alike[f]);
        }
        c.is("alike -1", x.alike(-1), -1);
        c.is("alike 5", x.alike(5), -1);
        c.is("kinds", x.kinds(), 4);
        c.is("no kinds", new OffThenOn().kinds(), 0);
        c.is("one kind", Check.with("thing a 1 0;fault f a 0 4 1;fault g a 1 6 1;fault h a 2 7 1;").kinds(), 1);
        c.is("two kinds by thing", Check.with("thing a 1 0;thing b 1 0;fault f a 0 4 1;fault g b 1 6 1;").kinds(), 2);
    }

    private static void look() {
        OffThenOn x = Check.with(HOUSE);
        c.is("ahead of any", x.left(), -1);
        int[][] due = {{31, 1, 2}, {17, 0, 2}, {3, 1, 1}, {8, 0, 1}, {12, 0, 1}, {9, 1, 1}, {25, 1, 2}, {0b11100, 0, 2}};
        for (int[] d : due) {
            c.is("look " + d[0], x.look(d[0]), d[1]);
            c.is("left of " + d[0], x.left(), d[2]);
        }
        x.look(8);
        for (int no : new int[] {0, 32, 33, -1, Integer.MIN_VALUE}) {
            c.is("look " + no, x.look(no), -1);
            c.is("the latest stays", x.left(), 1);
        }
    }

    private static int fits(OffThenOn x, int t, int... bytes) {
        Check.feed(x, bytes);
        int found = x.fits(t);
        c.is("the tape is taken", x.count(3), 0);
        return found;
    }

    private static int[] row(int n, int lamp, int more, int then) {
        int[] row = new int[n + more];
        for (int i = 0; i < row.length; i++) {
            row[i] = i < n ? lamp : then;
        }
        return row;
    }

    private static void fits() {
        OffThenOn x = Check.with(HOUSE);
        c.is("well", fits(x, 1, 18, 18), 256);
        c.is("3", fits(x, 1, 3), 17);
        c.is("3 for 7, then well: worm", fits(x, 1, row(7, 3, 1, 18)), 16);
        c.is("3 for 8: hung", fits(x, 1, row(8, 3, 0, 0)), 1);
        c.is("3 for 30, then well: hung", fits(x, 1, row(30, 3, 30, 18)), 1);
        c.is("3 for 6, then well", fits(x, 1, row(6, 3, 1, 18)), 0);
        c.is("5 for 60: cord", fits(x, 1, row(60, 5, 0, 0)), 2);
        c.is("61", fits(x, 1, row(61, 5, 0, 0)), -1);
        c.is("none", fits(x, 1), -1);
        c.is("no thing", fits(x, 4, 18), -1);
        c.is("no thing", fits(x, -1, 18), -1);
        x.strike(1);
        x.minutes(1);
        c.is("what is there is of no matter", fits(x, 1, 18, 18), 256);
        c.is("age 0 from now on", fits(x, 1, row(7, 3, 1, 18)), 16);
        x.strike(0);
        x.strike(4);
        x.minutes(2);
        c.is("age 0 from now on, though they are there", fits(x, 1, row(7, 3, 1, 18)), 16);
        x.minutes(60);
        x.off(0);
        c.is("no number", fits(x, 1, 17, 17), 256);
        c.is("no number behind a fault", fits(x, 1, row(7, 3, 1, 17)), 16);
        x.off(1);
        c.is("off", fits(x, 1, 0, 0), 0b100010011);
        x.minutes(2);
        x.on(0, 0);
        x.on(1, 0);
        c.is("boots, then well, or healed by then", fits(x, 1, 16, 16, 16, 16, 18), 256);
        c.is("boots, then hung or worm", fits(x, 1, 16, 16, 16, 16, 3), 17);
        c.is("boots, then worm for 3", fits(x, 1, 16, 16, 16, 16, 3, 3, 3, 18), 16);
        c.is("nothing was done", x.thing(1, 4), 4);
        c.is("cord is there", x.now(3), 2);
    }

    private static void fitsAtTheEnd() {
        OffThenOn x = Check.with(HOUSE);
        for (int i = 0; i < 16; i++) {
            x.minutes(60);
        }
        x.minutes(35);
        c.is("worm never heals", fits(x, 1, row(20, 3, 0, 0)), 17);
        x.off(3);
        c.is("off for ever", fits(x, 3, row(20, 0, 0, 0)), 256);
        x.off(1);
        x.minutes(2);
        x.on(1, 0);
        c.is("boots for ever", fits(x, 1, row(20, 16, 0, 0)), 0b100010011);
    }

    private static void heals() {
        OffThenOn x = Check.with(HOUSE);
        c.is("not there", x.heals(0), -1);
        x.strike(0);
        x.strike(1);
        c.is("hung", x.heals(0), 30);
        c.is("never", x.heals(1), -1);
        x.minutes(29);
        c.is("hung later", x.heals(0), 1);
        x.minutes(1);
        c.is("gone", x.heals(0), -1);
        c.is("none such", x.heals(-1), -1);
        c.is("none such", x.heals(5), -1);
    }

    private static void worksIn() {
        OffThenOn x = Check.with(HOUSE);
        c.is("works", x.worksIn(2), 0);
        c.is("none such", x.worksIn(-1), -1);
        c.is("none such", x.worksIn(4), -1);
        x.strike(4);
        c.is("box heals", x.worksIn(1), 7);
        c.is("tv behind it", x.worksIn(2), 7);
        c.is("wall works", x.worksIn(0), 0);
        x.strike(2);
        c.is("street heals", x.worksIn(2), 90);
        x.strike(1);
        c.is("never", x.worksIn(2), -1);
        OffThenOn y = Check.with("thing a 30 20;thing b 1 0 behind a;fault f a 200 1 1;fault g b 0 1 1;");
        y.off(0);
        c.is("off stays off", y.worksIn(0), -1);
        c.is("no number, never", y.worksIn(1), -1);
        y.minutes(20);
        y.on(0, 0);
        c.is("boots", y.worksIn(0), 30);
        c.is("now has no number", y.worksIn(1), -1);
        y.pin(1, 0);
        c.is("too early for its number", y.worksIn(1), -1);
        y.minutes(29);
        y.pin(1, 0);
        c.is("in time", y.worksIn(1), 1);
        y.strike(0);
        c.is("as late as it heals", y.worksIn(1), 200);
        c.is("all stays", y.now(0), 49);
        worksInAtTheEnd();
    }

    private static void worksInAtTheEnd() {
        OffThenOn x = Check.with("thing a 30 0;fault f a 40 1 1;fault g a 41 1 1;");
        for (int i = 0; i < 16; i++) {
            x.minutes(60);
        }
        x.strike(0);
        c.is("by the last minute", x.worksIn(0), 40);
        x.strike(1);
        c.is("not by it", x.worksIn(0), -1);
    }

    private static void tell() {
        OffThenOn x = Check.with(HOUSE);
        c.is("ahead of any", x.byteAt(0), -1);
        c.is("works", Check.told(x, 0), "wall works");
        c.is("bytes", x.tell(0), 10);
        c.is("byte -1", x.byteAt(-1), -1);
        c.is("byte 9", x.byteAt(9), (int) 's');
        c.is("byte 10", x.byteAt(10), -1);
        c.is("none such", x.tell(4), -1);
        c.is("none such", x.tell(-1), -1);
        c.is("the latest stays", x.byteAt(0), (int) 'w');
        x.strike(4);
        c.is("worm", Check.told(x, 1), "box has worm");
        x.strike(0);
        c.is("of those that show alike the first", Check.told(x, 1), "box has hung");
        x.strike(1);
        c.is("the one that shows most", Check.told(x, 1), "box has cord");
        c.is("waits", Check.told(x, 2), "tv waits");
        x.off(0);
        c.is("off", Check.told(x, 0), "wall is off");
        c.is("no number", Check.told(x, 2), "tv has no number");
        x.minutes(2);
        x.on(0, 1);
        c.is("boots", Check.told(x, 0), "wall boots 3");
        OffThenOn y = Check.with("thing abcdefg 30 0;fault hijklmn abcdefg 0 1 1;");
        y.pin(0, 0);
        c.is("boots long", Check.told(y, 0), "abcdefg boots 30");
        y.minutes(20);
        c.is("boots 10", Check.told(y, 0), "abcdefg boots 10");
        y.minutes(1);
        c.is("boots 9", Check.told(y, 0), "abcdefg boots 9");
        y.minutes(9);
        y.strike(0);
        c.is("long names", Check.told(y, 0), "abcdefg has hijklmn");
    }

    private static void odds() {
        OffThenOn x = Check.with(HOUSE);
        for (int[] no : new int[][] {{-1, 1}, {4, 1}, {0, 0}, {0, 31}, {0, -1}}) {
            c.is("odds " + no[0] + " " + no[1], x.odds(no[0], no[1], 1), -1);
        }
        x.strike(0);
        x.minutes(3);
        for (int t = 0; t < 4; t++) {
            int working = 0;
            for (int i = 0; i < 30; i++) {
                x.drawn(60, Integer.MAX_VALUE - 10 + i);
                working += x.thing(t, 7);
                x.undo();
            }
            c.is("odds of " + t, x.odds(t, 30, Integer.MAX_VALUE - 10), working);
        }
        for (int seed = 0; seed < 20; seed++) {
            x.drawn(60, seed);
            int works = x.thing(0, 7);
            x.undo();
            c.is("odds of one seed " + seed, x.odds(0, 1, seed), works);
        }
        c.is("all stays", x.now(0), 3);
        c.is("nothing to undo of it", x.undo(), 1);
    }
}
