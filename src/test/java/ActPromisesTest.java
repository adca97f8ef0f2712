import java.util.Arrays;

/** Promises 6, 7, 9 to 16, 34, 40 and 41: what acts and MINUTES change, and what is undone or kept. */
public final class ActPromisesTest {
    private static final String HOUSE = "thing a 2 3;thing b 1 0 behind a;thing c 4 1 behind b;thing d 1 0;"
            + "fault f a 5 10 3;fault g a 0 20 7;fault h b 2 30 4;fault i a 0 5 7;"
            + "cures f off 12;cures g off 6;cures g cable 3;cures h pin 12;cures i off 6;";

    private static final Check c = new Check();

    public static void main(String[] args) {
        off();
        on();
        cable();
        pin();
        draws();
        otherDraws();
        strike();
        minutes();
        lastMinute();
        undo();
        whatIsUndone();
        eachActUndone();
        drawn();
        drawnWithFaults();
        images();
        newHouse();
        c.close();
    }

    private static void things(OffThenOn x, String where, int what, int... due) {
        for (int t = 0; t < due.length; t++) {
            c.is(where + ": thing " + t + " " + what, x.thing(t, what), due[t]);
        }
    }

    private static void off() {
        OffThenOn x = Check.with(HOUSE);
        c.is("off b", x.off(1), 0);
        things(x, "b off", 3, 2, 0, 2, 2);
        things(x, "b off", 5, 1, 0, 0, 1);
        things(x, "b off", 6, 18, 0, 17, 18);
        things(x, "b off", 7, 1, 0, 0, 1);
        c.is("off again", x.off(1), 1);
        c.is("off -1", x.off(-1), -1);
        c.is("off 4", x.off(4), -1);
        c.is("up", x.now(2), 13);
        c.is("works", x.now(1), 9);
        c.is("no deed yet", x.now(4), 0);
        x.minutes(2);
        things(x, "b off for 2", 4, 0, 2, 0, 0);
        things(x, "b off for 2", 8, 0, 2, 0, 0);
        x.on(1, 0);
        x.minutes(1);
        x.off(1);
        x.minutes(1);
        things(x, "b off again", 4, 0, 1, 0, 0);
        things(x, "b off again", 8, 0, 3, 0, 0);
        OffThenOn y = Check.with(HOUSE);
        y.off(0);
        things(y, "a off: none behind it has a number", 5, 0, 0, 0, 1);
        things(y, "a off: they stay up", 3, 0, 2, 2, 2);
        things(y, "a off", 7, 0, 0, 0, 1);
    }

    private static void on() {
        OffThenOn x = Check.with(HOUSE);
        c.is("on: it is not off", x.on(0, 1), 1);
        x.off(0);
        c.is("on: too early", x.on(0, 1), 2);
        x.minutes(2);
        c.is("on: still too early", x.on(0, 1), 2);
        x.minutes(1);
        c.is("on", x.on(0, 1), 0);
        c.is("on again", x.on(0, 1), 1);
        c.is("on -1", x.on(-1, 1), -1);
        c.is("on 4", x.on(4, 1), -1);
        c.is("a deed", x.now(4), 1);
        things(x, "a boots", 3, 1, 2, 2, 2);
        things(x, "a boots", 4, 2, 0, 0, 0);
        things(x, "a boots", 6, 16, 17, 17, 18);
        x.minutes(1);
        c.is("one yet", x.thing(0, 4), 1);
        x.minutes(1);
        things(x, "a is up", 5, 1, 0, 0, 1);
        things(x, "a is up", 3, 2, 2, 2, 2);
        x.minutes(9);
        things(x, "numbers come by booting alone", 5, 1, 0, 0, 1);
        c.is("b off", x.off(1), 0);
        c.is("b on at once: it waits for none", x.on(1, 1), 0);
        x.minutes(1);
        things(x, "b has its number", 5, 1, 1, 0, 1);
        OffThenOn y = Check.with(HOUSE);
        y.off(0);
        y.off(1);
        y.on(1, 0);
        y.minutes(1);
        things(y, "b up behind what is off: no number", 5, 0, 0, 0, 1);
        c.is("b is up", y.thing(1, 3), 2);
        OffThenOn v = Check.with(HOUSE);
        v.off(0);
        v.minutes(3);
        v.off(2);
        v.minutes(1);
        v.on(2, 0);
        v.minutes(4);
        things(v, "c up behind what is up without a number", 5, 0, 0, 0, 1);
        OffThenOn z = Check.with("thing a 2 0;thing b 2 0 behind a;thing c 1 0 behind b;");
        z.off(0);
        z.off(1);
        z.off(2);
        z.on(0, 0);
        z.on(1, 0);
        z.on(2, 0);
        z.minutes(2);
        things(z, "up in one minute, a ahead of b; c was too early", 5, 1, 1, 0);
    }

    private static void cable() {
        OffThenOn x = Check.with(HOUSE);
        x.strike(1);
        c.is("cable", x.cable(0, 0), 0);
        c.is("a deed", x.now(4), 1);
        c.is("a draw of 0 is 0: gone", x.now(5), 1);
        c.is("all up still", x.now(2), 15);
        c.is("all work", x.now(1), 15);
        x.off(0);
        c.is("cable of what is off", x.cable(0, 0), 1);
        c.is("cable -1", x.cable(-1, 0), -1);
        c.is("cable 4", x.cable(4, 0), -1);
        c.is("no deed more", x.now(4), 1);
    }

    private static void pin() {
        OffThenOn x = Check.with(HOUSE);
        x.strike(2);
        x.strike(0);
        c.is("pin", x.pin(1, 77), 0);
        things(x, "pin at b", 3, 2, 1, 2, 2);
        things(x, "pin at b", 4, 0, 1, 0, 0);
        things(x, "pin at b", 5, 1, 0, 0, 1);
        things(x, "it was never off", 8, 0, 0, 0, 0);
        c.is("h is gone, f is not of b", x.now(3), 1);
        c.is("one deed", x.now(4), 1);
        c.is("pin at what boots", x.pin(1, 0), 0);
        x.minutes(1);
        c.is("up with its number", x.thing(1, 5), 1);
        x.strike(1);
        c.is("pin at a, though it has to wait", x.pin(0, 0), 0);
        c.is("'pin' is no cure of f, g", x.now(3), 3);
        things(x, "pin at a", 5, 0, 0, 0, 1);
        x.off(2);
        c.is("pin at what is off", x.pin(2, 0), 1);
        c.is("pin -1", x.pin(-1, 0), -1);
        c.is("pin 4", x.pin(4, 0), -1);
    }

    /** f, g, i of a by 'off': three draws of 12 one behind the other, that of f too. */
    private static void draws() {
        for (int seed = -50; seed < 50; seed++) {
            OffThenOn x = Check.with(HOUSE);
            x.strike(0);
            x.strike(1);
            x.strike(3);
            x.off(0);
            x.minutes(3);
            x.on(0, seed);
            int s = seed;
            int left = 0;
            for (int f : new int[] {0, 1, 3}) {
                s = s * 1103515245 + 12345;
                int n = f == 0 ? 12 : 6;
                left |= (s >>> 8) % 12 < n ? 0 : 1 << f;
            }
            c.is("left with seed " + seed, x.now(3), left);
            c.is("gone with seed " + seed, x.now(5), 3 - Integer.bitCount(left));
        }
        // Without f there is one draw less ahead of g.
        for (int seed = 0; seed < 50; seed++) {
            OffThenOn x = Check.with(HOUSE);
            x.strike(1);
            x.off(0);
            x.minutes(3);
            x.on(0, seed);
            int s = seed * 1103515245 + 12345;
            c.is("g alone with seed " + seed, x.now(3), (s >>> 8) % 12 < 6 ? 0 : 2);
        }
    }

    /** The CABLE and the PIN draw with the seed that comes with them, a LOG with the one of its LINE. */
    private static void otherDraws() {
        String house = "thing a 1 0;fault f a 0 1 1;fault g a 0 1 1;cures f cable 4;cures f pin 8;cures g cable 6;cures g pin 1;";
        for (int seed = 0; seed < 60; seed++) {
            int first = seed * 1103515245 + 12345;
            int second = first * 1103515245 + 12345;
            int cable = ((first >>> 8) % 12 < 4 ? 0 : 1) + ((second >>> 8) % 12 < 6 ? 0 : 2);
            int pin = ((first >>> 8) % 12 < 8 ? 0 : 1) + ((second >>> 8) % 12 < 1 ? 0 : 2);
            OffThenOn x = Check.with(house);
            x.strike(0);
            x.strike(1);
            x.cable(0, seed);
            c.is("cable with " + seed, x.now(3), cable);
            x.undo();
            x.pin(0, seed);
            c.is("pin with " + seed, x.now(3), pin);
            x.undo();
            c.is("log with " + seed, Check.log(x, "a cable " + seed + ";", 1), -1);
            c.is("lived with " + seed, x.now(3), cable);
            x.undo();
            Check.log(x, "a off;a on 5;a pin " + seed + ";", 1);
            c.is("pin lived with " + seed, x.now(3), pin);
        }
    }

    private static void strike() {
        OffThenOn x = Check.with(HOUSE);
        c.is("strike f", x.strike(0), 0);
        c.is("strike f again", x.strike(0), 1);
        c.is("strike -1", x.strike(-1), -1);
        c.is("strike 4", x.strike(4), -1);
        c.is("lamp of a", x.thing(0, 6), 3);
        x.strike(1);
        c.is("the greatest", x.thing(0, 6), 7);
        things(x, "none behind a works", 7, 0, 0, 0, 1);
        things(x, "they look well", 6, 7, 18, 18, 18);
        c.is("struck", x.trouble(0, 6), 1);
        x.off(1);
        c.is("numbers gone, but b is off", x.thing(1, 6), 0);
        x.minutes(3);
        c.is("age", x.trouble(0, 5), 3);
        x.off(0);
        c.is("off comes first", x.thing(0, 6), 0);
        x.strike(2);
        x.on(1, 0);
        c.is("boots comes first", x.thing(1, 6), 16);
        x.minutes(1);
        c.is("a fault comes ahead of no number", x.thing(1, 6), 4);
        x.minutes(1);
        c.is("h healed; no number", x.thing(1, 6), 17);
        c.is("f healed", x.trouble(0, 4), 0);
        c.is("age of what is gone", x.trouble(0, 5), 0);
        c.is("healed by itself", x.trouble(0, 7), 1);
        c.is("two by themselves", x.now(6), 2);
        c.is("none by deeds", x.now(5), 0);
        c.is("strikes again", x.strike(0), 0);
        c.is("struck twice", x.trouble(0, 6), 2);
        c.is("age anew", x.trouble(0, 5), 0);
    }

    private static void minutes() {
        OffThenOn x = Check.with(HOUSE);
        for (int n : new int[] {0, -1, 61, Integer.MAX_VALUE, Integer.MIN_VALUE}) {
            c.is("minutes " + n, x.minutes(n), -1);
        }
        c.is("minutes 1", x.minutes(1), 1);
        c.is("minutes 60", x.minutes(60), 60);
        c.is("minute", x.now(0), 61);
        x.strike(1);
        for (int i = 0; i < 10; i++) {
            x.minutes(60);
        }
        c.is("g never heals by itself", x.trouble(1, 4), 1);
        c.is("age", x.trouble(1, 5), 600);
    }

    private static void lastMinute() {
        OffThenOn x = Check.with(HOUSE);
        for (int i = 0; i < 16; i++) {
            c.is("hour " + i, x.minutes(60), 60);
        }
        c.is("the rest", x.minutes(60), 40);
        c.is("all are over", x.now(0), 1000);
        c.is("none", x.minutes(60), 0);
        c.is("none drawn", x.drawn(60, 5), 0);
        c.is("off is still done", x.off(1), 0);
        c.is("never again", x.worksIn(1), -1);
        c.is("undone", x.undo(), 7);
        c.is("the rest undone", x.undo(), 6);
        c.is("minute", x.now(0), 960);
        c.is("drawn to the end", x.drawn(60, 5), 40);
    }

    private static void undo() {
        OffThenOn x = Check.with(HOUSE);
        c.is("none", x.undo(), -1);
        x.off(0);
        c.is("not done", x.off(0), 1);
        c.is("not done", x.on(0, 1), 2);
        c.is("not done", x.cable(0, 1), 1);
        c.is("not done", x.pin(0, 1), 1);
        c.is("not as told", x.minutes(0), -1);
        c.is("not as told", x.drawn(0, 0), -1);
        c.is("one", x.undo(), 0);
        c.is("none more", x.undo(), -1);
        c.is("a is up", x.now(2), 15);
        for (int i = 1; i <= 10; i++) {
            x.minutes(i);
        }
        for (int i = 7; i >= 0; i--) {
            c.is("undo", x.undo(), i);
        }
        c.is("8 are kept", x.undo(), -1);
        c.is("minute", x.now(0), 3);
        x.minutes(1);
        c.is("undo behind all undone", x.undo(), 0);
        c.is("minute", x.now(0), 3);
    }

    private static void whatIsUndone() {
        OffThenOn x = Check.with(HOUSE);
        x.strike(0);
        x.minutes(4);
        x.off(0);
        x.minutes(3);
        x.on(0, 1);
        x.pin(1, 3);
        x.drawn(5, 9);
        Check.log(x, "minute 3;c off;", 1);
        Check.sentence(x, "not up");
        int[] before = new int[8];
        for (int i = 0; i < 8; i++) {
            before[i] = 7 - i;
            c.is("undo " + i, x.undo(), before[i]);
        }
        c.is("sentence stays", x.said(-1), 0);
        c.is("none struck", x.trouble(0, 6), 0);
        c.is("no deed", x.now(4), 0);
        c.is("all work", x.now(1), 15);
        x.strike(0);
        x.minutes(5);
        c.is("healed", x.now(6), 1);
        x.undo();
        c.is("not healed", x.now(6), 0);
        c.is("f not healed", x.trouble(0, 7), 0);
        c.is("there", x.now(3), 1);
        c.is("age", x.trouble(0, 5), 0);
    }

    private static int[] all(OffThenOn x) {
        int[] row = new int[7 + 9 * x.count(0) + 8 * x.count(1)];
        int n = 0;
        for (int i = 0; i < 7; i++) {
            row[n++] = x.now(i);
        }
        for (int t = 0; t < x.count(0); t++) {
            for (int i = 0; i < 9; i++) {
                row[n++] = x.thing(t, i);
            }
        }
        for (int f = 0; f < x.count(1); f++) {
            for (int i = 0; i < 8; i++) {
                row[n++] = x.trouble(f, i);
            }
        }
        return row;
    }

    /** Each act changes something, and undone leaves all as it was. */
    private static void eachActUndone() {
        OffThenOn x = Check.with(HOUSE);
        x.strike(0);
        x.minutes(1);
        x.strike(1);
        x.strike(2);
        x.off(3);
        x.minutes(1);
        x.off(0);
        x.minutes(3);
        for (int act = 0; act < 8; act++) {
            int[] before = all(x);
            int r = act == 0 ? x.off(2) : act == 1 ? x.on(0, 2) : act == 2 ? x.cable(1, 2) : act == 3 ? x.pin(1, 2)
                    : act == 4 ? x.strike(3) : act == 5 ? x.minutes(1) - 1 : act == 6 ? x.drawn(1, 3) - 1
                    : Check.log(x, "a on 7;minute 3;", 1) + 1;
            c.is("act " + act, r, 0);
            c.is("changed " + act, Arrays.equals(before, all(x)), false);
            x.undo();
            c.is("undone " + act, Arrays.toString(all(x)), Arrays.toString(before));
            // Each later act is undone from a state that another one led to.
            x.minutes(1);
        }
    }

    /** Counts of an old HOUSE are none of a new one. */
    private static void newHouse() {
        OffThenOn x = Check.with(HOUSE);
        String fresh = Arrays.toString(all(x));
        x.strike(0);
        x.strike(1);
        x.strike(2);
        x.minutes(3);
        x.pin(0, 5);
        x.off(1);
        x.off(0);
        x.minutes(5);
        x.on(0, 1);
        x.on(1, 1);
        Check.house(x, HOUSE);
        c.is("fresh", Arrays.toString(all(x)), fresh);
        Check.house(x, "thing p 1 0;thing q 1 0;thing r 1 0;fault s q 1 1 1;");
        x.off(0);
        c.is("none is behind p", x.now(1), 6);
        x.strike(0);
        c.is("s is of q", x.now(1), 4);
        c.is("s is not of p", Check.of(() -> x.plan(0, 1, 0)), Check.THROWS);
        c.is("no cures of s", x.cures(0, 0), 0);
    }

    /** A draw of 30, of 0 one of the FAULTS, then one of 20, with those of its DEED. */
    private static void drawnWithFaults() {
        for (int seed = 1000; seed < 1300; seed++) {
            OffThenOn x = Check.with("thing a 1 0;fault f a 0 1 1;fault g a 9 1 1;cures g off 5;");
            x.drawn(60, seed);
            int[] s = {seed};
            boolean[] there = new boolean[2];
            int[] struck = new int[2];
            int age = 0;
            int mode = 2;
            for (int i = 0; i < 60; i++) {
                if (draw(s, 30) == 0) {
                    int f = draw(s, 2);
                    struck[f] += there[f] ? 0 : 1;
                    age = f == 1 && !there[f] ? 0 : age;
                    there[f] = true;
                }
                int d = draw(s, 20);
                if (d == 0) {
                    mode = 0;
                } else if (d <= 3 && mode == 0) {
                    mode = 1;
                    if (there[1] && draw(s, 12) < 5) {
                        there[1] = false;
                    }
                }
                mode = mode == 1 ? 2 : mode;
                age++;
                there[1] = there[1] && age < 9;
            }
            c.is("there by " + seed, x.now(3), (there[0] ? 1 : 0) + (there[1] ? 2 : 0));
            c.is("struck by " + seed, x.trouble(0, 6) * 100 + x.trouble(1, 6), struck[0] * 100 + struck[1]);
            c.is("mode by " + seed, x.thing(0, 3), mode);
        }
    }

    private static int draw(int[] s, int n) {
        s[0] = s[0] * 1103515245 + 12345;
        return (s[0] >>> 8) % n;
    }

    private static void drawn() {
        OffThenOn x = Check.with(HOUSE);
        for (int n : new int[] {0, -1, 61, Integer.MAX_VALUE}) {
            c.is("drawn " + n, x.drawn(n, 1), -1);
        }
        c.is("no things", new OffThenOn().drawn(1, 1), -1);
        c.is("drawn 60", x.drawn(60, 1), 60);
        c.is("minute", x.now(0), 60);
        c.is("undone", x.undo(), 0);
        c.is("minute", x.now(0), 0);
        c.is("drawn 1", x.drawn(1, 1), 1);
        c.is("undone", x.undo(), 0);
        drawnByHand();
    }

    /** One thing, no faults: a draw of 30 and one of 20 each minute. */
    private static void drawnByHand() {
        for (int seed = 0; seed < 200; seed++) {
            OffThenOn x = Check.with("thing a 3 2;");
            x.drawn(40, seed);
            int s = seed;
            int mode = 2;
            int clock = 0;
            for (int i = 0; i < 40; i++) {
                s = (s * 1103515245 + 12345) * 1103515245 + 12345;
                int d = (s >>> 8) % 20;
                if (d == 0 && mode != 0) {
                    mode = 0;
                    clock = 0;
                } else if (d >= 1 && d <= 3 && mode == 0 && clock >= 2) {
                    mode = 1;
                    clock = 3;
                }
                clock += mode == 0 ? 1 : mode == 1 ? -1 : 0;
                mode = mode == 1 && clock == 0 ? 2 : mode;
            }
            c.is("drawn by " + seed, x.thing(0, 3), mode);
            c.is("clock by " + seed, x.thing(0, 4), clock);
        }
    }

    private static void images() {
        OffThenOn x = Check.with(HOUSE);
        c.is("nothing kept", x.restore(0), false);
        c.is("image -1", x.image(-1), false);
        c.is("image 2", x.image(2), false);
        x.strike(0);
        x.off(1);
        x.minutes(2);
        Check.sentence(x, "has f");
        c.is("image 0", x.image(0), true);
        c.is("other place is empty", x.restore(1), false);
        Check.house(x, "thing z 1 1;");
        c.is("image 1", x.image(1), true);
        x.tell(0);
        Check.log(x, "z of", 0);
        x.minutes(5);
        x.feed(1, 2, 3, 4, 5);
        c.is("restore 0", x.restore(0), true);
        c.is("things", x.count(0), 4);
        c.is("cures", x.count(2), 5);
        c.is("minute", x.now(0), 2);
        c.is("f is there", x.now(3), 1);
        c.is("sentence", x.said(0), 0);
        c.is("the tape stays", x.count(3), 20);
        c.is("the latest tell stays", x.byteAt(0), (int) 'z');
        c.is("the latest fault stays", x.fault(), 1);
        c.is("nothing can be undone", x.undo(), -1);
        x.minutes(4);
        c.is("restore 0 again", x.restore(0), true);
        c.is("minute", x.now(0), 2);
        c.is("restore 1", x.restore(1), true);
        c.is("one thing", x.count(0), 1);
        c.is("no sentence", x.said(-1), -1);
        c.is("restore -1", x.restore(-1), false);
        c.is("restore 2", x.restore(2), false);
        OffThenOn y = new OffThenOn();
        y.image(0);
        Check.house(y, HOUSE);
        c.is("the empty house", y.restore(0), true);
        c.is("no things", y.count(0), 0);
    }
}
