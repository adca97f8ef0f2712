/** Each sentence on acts, MINUTES, what is undone and what is kept that names an edge. */
public final class ActEdgesTest {
    private static final int[] FAR = {-1, 2, 6, 31, 32, 33, Integer.MIN_VALUE, Integer.MAX_VALUE};
    private static final int[] NO_MINUTES = {0, -1, 61, Integer.MIN_VALUE, Integer.MAX_VALUE};

    private static final Check c = new Check();

    public static void main(String[] args) {
        noSuchOnes();
        whatIsToldOfThings();
        whatIsToldOfFaults();
        lamps();
        works();
        offEdges();
        onEdges();
        cableAndPin();
        strikes();
        drawEdges();
        minuteEdges();
        lastMinute();
        bootEdges();
        healEdges();
        undoEdges();
        undoOfNothing();
        undoBehindRefused();
        drawnEdges();
        drawnSwitches();
        imageEdges();
        imageOfSentence();
        c.close();
    }

    private static OffThenOn atMinute(String house, int minute) {
        OffThenOn x = Check.with(house);
        while (x.now(0) < minute) {
            x.minutes(Math.min(60, minute - x.now(0)));
        }
        return x;
    }

    private static void noSuchOnes() {
        for (int no : FAR) {
            c.says("6: NoSuchElementException: no such ones");
            Seen.refused(c, "thing " + no, x -> x.thing(no, 0), Check.THROWS);
            c.says("7: NoSuchElementException: no such ones");
            Seen.refused(c, "trouble " + no, x -> x.trouble(no, 0), Check.THROWS);
            c.says("8: NONE: no such ones");
            Seen.refused(c, "cures " + no, x -> x.cures(no, 0), -1);
            c.says("10: NONE: no such one");
            Seen.refused(c, "off " + no, x -> x.off(no), -1);
            c.says("11: NONE: no such one");
            Seen.refused(c, "on " + no, x -> x.on(no, 1), -1);
            c.says("12: NONE: no such one");
            Seen.refused(c, "cable " + no, x -> x.cable(no, 1), -1);
            c.says("13: NONE: no such one");
            Seen.refused(c, "pin " + no, x -> x.pin(no, 1), -1);
            c.says("14: NONE: no such one");
            Seen.refused(c, "strike " + no, x -> x.strike(no), -1);
        }
        for (int no : new int[] {-1, 9, Integer.MIN_VALUE, Integer.MAX_VALUE}) {
            c.says("6: NoSuchElementException: no such what");
            Seen.refused(c, "thing 0 " + no, x -> x.thing(0, no), Check.THROWS);
            c.says("9: NONE for another what");
            Seen.refused(c, "now " + no, x -> x.now(no), -1);
        }
        c.is("now 7", Seen.lived().now(7), -1);
        for (int no : new int[] {-1, 8, Integer.MIN_VALUE, Integer.MAX_VALUE}) {
            c.says("7: NoSuchElementException: no such what");
            Seen.refused(c, "trouble 0 " + no, x -> x.trouble(0, no), Check.THROWS);
        }
        for (int no : new int[] {-1, 3, Integer.MIN_VALUE, Integer.MAX_VALUE}) {
            c.says("8: NONE: no such deed");
            Seen.refused(c, "cures 0 " + no, x -> x.cures(0, no), -1);
        }
        c.says("8: 0: none told");
        OffThenOn x = Check.with(Seen.HOUSE);
        c.is("f", x.cures(0, 0) * 100 + x.cures(0, 1) * 10 + x.cures(0, 2), 600);
        c.is("g", x.cures(1, 0) * 1000 + x.cures(1, 1) * 10 + x.cures(1, 2), 120);
        c.says("An empty HOUSE has none of any");
        OffThenOn e = new OffThenOn();
        c.is("acts", e.off(0) + e.on(0, 0) + e.cable(0, 0) + e.pin(0, 0) + e.strike(0), -5);
        c.is("thing", Check.of(() -> e.thing(0, 0)), Check.THROWS);
        c.is("trouble", Check.of(() -> e.trouble(0, 0)), Check.THROWS);
        c.is("cures", e.cures(0, 0), -1);
    }

    private static void whatIsToldOfThings() {
        OffThenOn x = Check.with("thing a 30 20;thing b 1 0 behind a;");
        c.says("6: 2 the one that it is behind (NONE: on the wall)");
        c.is("a", x.thing(0, 2), -1);
        c.is("b", x.thing(1, 2), 0);
        c.says("6: 4 MINUTES for which it has been OFF, or BOOTS yet (UP: 0)");
        c.is("up", x.thing(0, 4), 0);
        x.off(0);
        c.is("just off", x.thing(0, 4), 0);
        x.minutes(20);
        c.is("off for 20", x.thing(0, 4), 20);
        x.on(0, 0);
        c.is("boots for 30 yet", x.thing(0, 4), 30);
        x.minutes(29);
        c.is("for 1 yet", x.thing(0, 4) * 10 + x.thing(0, 3), 11);
        x.minutes(1);
        c.is("up", x.thing(0, 4) * 10 + x.thing(0, 3), 2);
        c.says("6: 8 MINUTES that it was OFF so far");
        c.is("20", x.thing(0, 8), 20);
        x.pin(0, 0);
        x.minutes(5);
        c.is("a PIN is for none", x.thing(0, 8), 20);
        x.off(0);
        c.is("off for none yet", x.thing(0, 4), 0);
        x.minutes(1);
        c.is("21", x.thing(0, 8) * 10 + x.thing(0, 4), 211);
        c.is("b was never off", x.thing(1, 8), 0);
    }

    private static void whatIsToldOfFaults() {
        OffThenOn x = Check.with("thing a 1 0;fault f a 2 99 15;cures f cable 12;");
        c.says("7: 5 AGE (not there: 0)");
        c.is("never there", x.trouble(0, 5), 0);
        x.strike(0);
        c.is("struck", x.trouble(0, 5), 0);
        x.minutes(1);
        c.is("one", x.trouble(0, 5), 1);
        x.cable(0, 0);
        c.is("gone by a deed", x.trouble(0, 4) * 10 + x.trouble(0, 5), 0);
        x.strike(0);
        x.minutes(2);
        c.is("gone by itself", x.trouble(0, 4) * 10 + x.trouble(0, 5), 0);
        c.says("7: 6 how often it struck so far, 7 how often it was gone by itself so far");
        c.is("twice, once", x.trouble(0, 6) * 10 + x.trouble(0, 7), 21);
        x.strike(0);
        c.is("a strike that is refused is none", x.strike(0) * 100 + x.trouble(0, 6), 103);
        c.says("9: 4 DEEDS done so far, 5 FAULTS that were gone by DEEDS so far, 6 by themselves so far");
        c.is("so far", x.now(4) * 100 + x.now(5) * 10 + x.now(6), 111);
        x.off(0);
        x.cable(0, 0);
        x.pin(0, 0);
        c.is("none by what was refused, nor by off alone", x.now(4), 1);
        x.on(0, 0);
        x.pin(0, 0);
        c.is("three", x.now(4), 3);
    }

    private static void lamps() {
        c.says("Its LAMP, the first of these that is so");
        String house = "thing a 5 0;thing b 2 0 behind a;fault f b 0 1 15;fault g b 0 1 1;fault h b 0 1 9;";
        OffThenOn x = Check.with(house);
        c.is("18", x.thing(1, 6), 18);
        x.off(0);
        c.is("17 it has no number", x.thing(1, 6), 17);
        x.strike(1);
        c.is("a fault that shows least", x.thing(1, 6), 1);
        x.strike(2);
        c.is("the greatest", x.thing(1, 6), 9);
        x.strike(0);
        c.is("a fault that shows most", x.thing(1, 6), 15);
        c.is("none of a", x.thing(0, 6), 0);
        x.pin(1, 0);
        c.is("16 it boots, with faults there", x.thing(1, 6), 16);
        x.off(1);
        c.is("0 it is off, with faults there", x.thing(1, 6), 0);
    }

    private static void works() {
        c.says("It WORKS, if it is UP, has its NUMBER, none of its FAULTS is there, and the one that it is behind WORKS");
        String house = "thing a 1 0;thing b 1 0 behind a;thing d 1 0 behind b;fault f b 0 1 1;";
        OffThenOn x = Check.with(house);
        c.is("all", x.now(1), 7);
        x.strike(0);
        c.is("a alone", x.now(1), 1);
        c.is("d has its number and looks well", x.thing(2, 5) * 100 + x.thing(2, 6), 118);
        OffThenOn y = Check.with(house);
        y.pin(2, 0);
        c.is("it boots", y.now(1), 3);
        y.minutes(1);
        c.is("it is up", y.now(1), 7);
        y.off(1);
        y.on(1, 0);
        y.minutes(1);
        c.is("d is up, but has no number", y.now(1) * 10 + y.now(2), 37);
        c.is("no things", new OffThenOn().now(1), 0);
        OffThenOn z = Check.with(FULL);
        c.is("six work", z.now(1), 63);
        c.is("six are up", z.now(2), 63);
        for (int f = 0; f < 8; f++) {
            z.strike(f);
        }
        c.is("eight are there", z.now(3), 255);
        c.is("five work", z.now(1), 31);
    }

    private static final String FULL = "thing a 1 0;thing b 1 0;thing c 1 0;thing d 1 0;thing e 1 0;thing g 1 0;"
            + "fault fa g 0 1 1;fault fb g 0 1 2;fault fc g 0 1 3;fault fd g 0 1 4;fault fe g 0 1 5;fault ff g 0 1 6;"
            + "fault fg g 0 1 7;fault fh g 0 1 8;cures fh cable 12;";

    private static void offEdges() {
        c.says("10: why not: 1 it is OFF");
        Seen.refused(c, "off b", x -> x.off(1), 1);
        c.says("To switch OFF: it is OFF from then on, has no NUMBER, nor has any THING behind it (UP or not)");
        OffThenOn x = Check.with("thing a 9 0;thing b 9 0 behind a;thing d 9 0 behind b;thing e 9 0;");
        c.is("off", x.off(0), 0);
        c.is("numbers", x.thing(0, 5) * 1000 + x.thing(1, 5) * 100 + x.thing(2, 5) * 10 + x.thing(3, 5), 1);
        c.is("up", x.now(2), 14);
        c.says("To switch OFF what BOOTS is fine");
        OffThenOn y = Check.with("thing a 9 0;thing b 2 0 behind a;");
        y.pin(0, 0);
        c.is("boots", y.thing(0, 3), 1);
        c.is("off", y.off(0), 0);
        c.is("for none yet", y.thing(0, 3) * 10 + y.thing(0, 4), 0);
        c.says("nor has any THING behind it: what BOOTS gets none either, if it is UP too early");
        OffThenOn z = Check.with("thing a 1 0;thing b 2 0 behind a;");
        z.pin(1, 0);
        z.minutes(1);
        z.off(0);
        z.minutes(1);
        c.is("b is up without", z.thing(1, 3) * 10 + z.thing(1, 5), 20);
    }

    private static void onEdges() {
        c.says("11: why not: 1 it is not OFF");
        Seen.refused(c, "on what boots", x -> x.on(0, 1), 1);
        OffThenOn u = Check.with(Seen.HOUSE);
        c.is("on what is up", u.on(0, 1), 1);
        c.is("no deed", u.now(4), 0);
        c.says("11: 2 it has been OFF for fewer MINUTES than its WAIT");
        for (int wait = 0; wait <= 20; wait += 5) {
            OffThenOn x = Check.with("thing a 1 " + wait + ";");
            x.off(0);
            for (int m = 0; m < wait; m++) {
                c.is("too early at " + m + " of " + wait, x.on(0, 1), 2);
                x.minutes(1);
            }
            c.is("no deed yet", x.now(4), 0);
            c.is("in time at " + wait, x.on(0, 1), 0);
            c.is("a deed", x.now(4), 1);
        }
        c.says("2: its WAIT counts from the latest time that it was switched OFF");
        OffThenOn y = Check.with("thing a 1 2;");
        y.off(0);
        y.minutes(5);
        y.on(0, 0);
        y.off(0);
        y.minutes(1);
        c.is("anew", y.on(0, 0), 2);
        y.minutes(1);
        c.is("in time", y.on(0, 0), 0);
        c.says("why not, the least: 1 comes ahead of 2");
        OffThenOn z = Check.with("thing a 9 20;");
        c.is("it is up", z.on(0, 0), 1);
        z.pin(0, 0);
        c.is("it boots", z.on(0, 0), 1);
    }

    private static void cableAndPin() {
        c.says("12: The CABLE: 1 it is OFF");
        Seen.refused(c, "cable of what is off", x -> x.cable(1, 1), 1);
        c.says("12: The CABLE of what BOOTS is fine, and changes nothing but FAULTS");
        OffThenOn x = Check.with(FULL);
        x.pin(5, 0);
        x.strike(7);
        c.is("cable", x.cable(5, 3), 0);
        c.is("gone", x.now(3) * 10 + x.now(5), 1);
        c.is("boots still", x.thing(5, 3) * 10 + x.thing(5, 4), 11);
        c.is("of a thing without faults it is a deed, too", x.cable(0, 3) * 10 + x.now(4), 3);
        c.says("13: A PIN: 1 it is OFF");
        Seen.refused(c, "pin of what is off", y -> y.pin(1, 1), 1);
        c.says("A PIN: as if it were switched OFF and at once ON (WAIT of no matter)");
        OffThenOn z = Check.with("thing a 30 20;thing b 1 0 behind a;fault f a 0 1 1;cures f off 12;");
        z.strike(0);
        c.is("pin", z.pin(0, 0), 0);
        c.is("boots for 30", z.thing(0, 3) * 100 + z.thing(0, 4), 130);
        c.is("no numbers", z.thing(0, 5) + z.thing(1, 5), 0);
        c.is("but DEED 'off' is not done", z.now(3) * 10 + z.now(4), 11);
        z.minutes(10);
        c.is("pin of what boots", z.pin(0, 0), 0);
        c.is("boots anew", z.thing(0, 4), 30);
    }

    private static void strikes() {
        c.says("14: A FAULT STRIKES: 1 it is there");
        Seen.refused(c, "strike f", x -> x.strike(0), 1);
        c.says("it is there from then on, its AGE is 0");
        OffThenOn x = Check.with("thing a 1 0;fault f a 0 1 1;cures f cable 12;");
        x.strike(0);
        x.minutes(60);
        c.is("60", x.trouble(0, 5), 60);
        c.is("it stays as old", x.strike(0) * 100 + x.trouble(0, 5), 160);
        x.cable(0, 0);
        c.is("anew", x.strike(0) * 100 + x.trouble(0, 5), 0);
        x.off(0);
        OffThenOn y = Check.with("thing a 1 0;fault f a 0 1 1;");
        y.off(0);
        c.is("of what is off, too", y.strike(0) * 10 + y.trouble(0, 4), 1);
        c.is("the last of eight", Check.with(FULL).strike(7), 0);
    }

    private static int next(int x) {
        return x * 1103515245 + 12345;
    }

    private static void drawEdges() {
        c.says("a draw of 12 below N: it is gone; x wraps; (x >>> 8) % n");
        int[] seedOf = new int[12];
        for (int i = 0; i < 1000; i++) {
            seedOf[(next(i * 7919) >>> 8) % 12] = i * 7919;
        }
        int[] edges = {0, 1, -1, Integer.MAX_VALUE, Integer.MIN_VALUE, 0x40000000, -1103515245};
        for (int n = 1; n <= 12; n++) {
            OffThenOn x = Check.with("thing a 1 0;fault f a 0 1 1;cures f cable " + n + ";");
            for (int d = 0; d < 12; d++) {
                x.strike(0);
                x.cable(0, seedOf[d]);
                c.is("N " + n + ", a draw of " + d, x.now(3), d < n ? 0 : 1);
            }
            for (int seed : edges) {
                x.strike(0);
                x.cable(0, seed);
                c.is("N " + n + ", seed " + seed, x.now(3), (next(seed) >>> 8) % 12 < n ? 0 : 1);
            }
        }
        c.says("FAULT by FAULT of this THING that is there and for which that DEED is told");
        String house = "thing a 1 0;thing b 1 0;fault fa a 0 1 1;fault fb b 0 1 1;fault fc a 0 1 1;fault fd a 0 1 1;fault fe a 0 1 1;"
                + "cures fa cable 6;cures fb cable 6;cures fc off 6;cures fd cable 6;cures fe cable 6;";
        for (int seed = 0; seed < 40; seed++) {
            OffThenOn x = Check.with(house);
            for (int f : new int[] {0, 1, 2, 4}) {
                x.strike(f);
            }
            int first = next(seed);
            int second = next(first);
            x.cable(0, seed);
            int left = ((first >>> 8) % 12 < 6 ? 0 : 1) + 2 + 4 + ((second >>> 8) % 12 < 6 ? 0 : 16);
            c.is("one draw for fa, one for fe with " + seed, x.now(3), left);
        }
    }

    private static void minuteEdges() {
        c.says("15: n (1 to 60) MINUTES go by: how many did");
        OffThenOn x = Check.with(Seen.HOUSE);
        c.is("1", x.minutes(1), 1);
        c.is("60", x.minutes(60), 60);
        c.is("minute", x.now(0), 61);
        c.says("15: NONE: not as told");
        for (int no : NO_MINUTES) {
            Seen.refused(c, "minutes " + no, y -> y.minutes(no), -1);
        }
        c.says("MINUTES of an empty HOUSE go by");
        OffThenOn e = new OffThenOn();
        c.is("60", e.minutes(60) + e.now(0), 120);
        c.is("undone", e.undo() + e.now(0), 0);
    }

    private static void lastMinute() {
        String house = "thing a 1 0;thing b 3 0 behind a;fault f a 5 1 1;";
        c.says("A MINUTE (0 to 999; 1000: all are over)");
        OffThenOn x = atMinute(house, 999);
        c.is("the last one", x.minutes(60), 1);
        c.is("all are over", x.now(0), 1000);
        c.is("none goes by", x.minutes(1), 0);
        c.is("none goes by", x.minutes(60), 0);
        c.is("still", x.now(0), 1000);
        c.is("none is drawn", x.drawn(1, 5), 0);
        c.is("not as told is not as told", x.minutes(61) + x.minutes(0) + x.drawn(61, 1) + x.drawn(0, 1), -4);
        c.is("that of the 999th is undone", x.undo() * 0 + x.now(0), 999);
        OffThenOn y = atMinute(house, 1000);
        c.is("off", y.off(0), 0);
        c.is("on", y.on(0, 1), 0);
        c.is("strike", y.strike(0), 0);
        c.is("pin", y.pin(1, 1), 0);
        c.is("cable", y.cable(1, 1), 0);
        c.is("it boots for ever", y.minutes(5) + y.thing(0, 3), 1);
        c.is("undo", y.undo(), 7);
    }

    private static void bootEdges() {
        c.says("it BOOTS: one less; at none it is UP");
        OffThenOn x = Check.with("thing a 1 0;thing b 30 0;");
        x.pin(0, 0);
        x.pin(1, 0);
        x.minutes(1);
        c.is("a is up", x.thing(0, 3) * 10 + x.thing(0, 5), 21);
        x.minutes(28);
        c.is("b boots", x.thing(1, 3) * 10 + x.thing(1, 4), 11);
        x.minutes(1);
        c.is("b is up", x.thing(1, 3) * 10 + x.thing(1, 5), 21);
        c.says("it has its NUMBER, if the one that it is behind is UP and has its NUMBER");
        String house = "thing a 3 0;thing b 3 0 behind a;thing d 3 0 behind b;";
        OffThenOn y = Check.with(house);
        for (int t = 2; t >= 0; t--) {
            y.off(t);
            y.on(t, 0);
        }
        y.minutes(3);
        c.is("all in one MINUTE, THING by THING", y.now(1), 7);
        OffThenOn z = Check.with(house);
        z.pin(1, 0);
        z.minutes(1);
        z.pin(0, 0);
        z.minutes(2);
        c.is("b is up a MINUTE ahead of a", z.thing(1, 3) * 10 + z.thing(1, 5), 20);
        z.minutes(1);
        c.is("a is up; b got none", z.thing(0, 5) * 10 + z.thing(1, 5), 10);
        OffThenOn w = Check.with(house);
        w.off(0);
        w.pin(2, 0);
        w.minutes(3);
        c.is("b is up, but has no number: d has none", w.thing(1, 3) * 100 + w.thing(2, 3) * 10 + w.thing(2, 5), 220);
    }

    private static void healEdges() {
        c.says("if that is as much as HEALS (above 0), it is gone by itself");
        OffThenOn x = Check.with("thing a 1 0;fault f a 1 1 1;fault g a 200 1 1;fault h a 0 1 1;");
        x.strike(0);
        x.strike(1);
        x.strike(2);
        x.minutes(1);
        c.is("f is gone at 1", x.now(3), 6);
        for (int i = 0; i < 3; i++) {
            x.minutes(60);
        }
        x.minutes(18);
        c.is("g is there at 199", x.now(3) * 1000 + x.trouble(1, 5), 6199);
        x.minutes(1);
        c.is("g is gone at 200", x.now(3), 4);
        c.is("two by themselves", x.now(6), 2);
        OffThenOn y = Check.with("thing a 1 0;fault h a 0 1 1;");
        y.strike(0);
        for (int i = 0; i < 17; i++) {
            y.minutes(60);
        }
        c.is("0: never by itself", y.now(3) * 10000 + y.trouble(0, 5), 11000);
        c.says("what heals while its THING is OFF or BOOTS heals alike");
        OffThenOn z = Check.with("thing a 9 0;fault f a 2 1 1;");
        z.strike(0);
        z.off(0);
        z.minutes(1);
        z.on(0, 0);
        z.minutes(1);
        c.is("gone", z.now(3) * 10 + z.trouble(0, 7), 1);
    }

    private static void undoEdges() {
        c.says("16: NONE: none is");
        OffThenOn x = Check.with(Seen.HOUSE);
        c.is("none", x.undo(), -1);
        c.says("16: how many more can be (8 at most are kept)");
        for (int i = 1; i <= 8; i++) {
            x.minutes(i);
        }
        c.is("7 more", x.undo(), 7);
        c.is("minute", x.now(0), 28);
        x.minutes(8);
        for (int i = 7; i >= 0; i--) {
            c.is("more", x.undo(), i);
        }
        c.is("none", x.undo(), -1);
        c.is("all eight are", x.now(0), 0);
        for (int i = 0; i < 9; i++) {
            x.minutes(1);
        }
        for (int i = 7; i >= 0; i--) {
            c.is("more", x.undo(), i);
        }
        c.is("the ninth is not kept", x.undo(), -1);
        c.is("minute", x.now(0), 1);
        c.says("8 at most are kept, however many were done ahead of them");
        OffThenOn y = Check.with(Seen.HOUSE);
        for (int i = 0; i < 100; i++) {
            y.minutes(1);
            if (i % 3 == 0) {
                c.is("minute of " + i, y.undo() >= 0 && y.minutes(1) == 1, true);
            }
        }
        for (int i = 7; i >= 0; i--) {
            c.is("more", y.undo(), i);
            c.is("minute", y.now(0), 92 + i);
        }
        c.is("none", y.undo(), -1);
        c.says("16: each act that was done can be undone, once");
        String house = "thing a 1 0;fault f a 0 1 1;";
        for (int act = 0; act < 8; act++) {
            OffThenOn z = Check.with(house);
            if (act == 1) {
                z.off(0);
                z.image(0);
                z.restore(0);
            }
            String before = Seen.all(z).replaceAll("logged[-0-9 ]*", "");
            int answer = act == 0 ? z.off(0) : act == 1 ? z.on(0, 1) : act == 2 ? z.cable(0, 1) : act == 3 ? z.pin(0, 1)
                    : act == 4 ? z.strike(0) : act == 5 ? z.minutes(1) : act == 6 ? z.drawn(1, 1) : Check.log(z, "minute 1;", 1);
            c.is("act " + act, answer, act < 5 ? 0 : act < 7 ? 1 : -1);
            c.is("undone " + act, z.undo(), 0);
            c.is("as it was " + act, Seen.all(z).replaceAll("logged[-0-9 ]*", ""), before);
            c.is("once " + act, z.undo(), -1);
        }
    }

    private static void undoOfNothing() {
        c.says("16: what was not done, minutes() of 0, drawn() of 0, a LOG that was judged leave nothing to undo");
        OffThenOn x = atMinute("thing a 1 5;fault f a 0 1 1;", 1000);
        x.off(0);
        x.strike(0);
        x.image(0);
        x.restore(0);
        x.off(0);
        x.on(0, 1);
        x.cable(0, 1);
        x.pin(0, 1);
        x.strike(0);
        x.minutes(60);
        x.drawn(60, 1);
        x.minutes(0);
        x.drawn(0, 0);
        Check.log(x, "a off;", 0);
        Check.log(x, "a of;", 1);
        x.log(2);
        c.is("none", x.undo(), -1);
        c.says("16: the latest is undone first; what is asked between is of no matter");
        OffThenOn y = Check.with("thing a 1 5;fault f a 0 1 1;");
        y.strike(0);
        y.minutes(3);
        y.off(0);
        y.tell(0);
        y.worksIn(0);
        y.odds(0, 30, 1);
        y.off(0);
        c.is("off", y.undo() * 100 + y.now(2) * 10 + y.now(0), 213);
        c.is("minutes", y.undo() * 100 + y.now(3) * 10 + y.now(0), 110);
        c.is("strike", y.undo() * 100 + y.now(3) * 10 + y.now(0), 0);
        c.is("none", y.undo(), -1);
    }

    private static void undoBehindRefused() {
        c.says("16: 8 are kept, whatever is refused behind them");
        for (int more = 0; more < 3; more++) {
            OffThenOn x = Check.with("thing a 1 5;fault f a 0 1 1;");
            for (int i = 0; i < 6 + more; i++) {
                x.minutes(1);
            }
            x.strike(0);
            x.off(0);
            x.off(0);
            x.on(0, 1);
            x.cable(0, 1);
            x.pin(0, 1);
            x.strike(0);
            x.minutes(0);
            Check.log(x, "a off;", 0);
            for (int i = 7; i >= 0; i--) {
                c.is("more", x.undo(), i);
            }
            c.is("minute", x.now(0), more);
            c.is("none", x.undo(), -1);
        }
        c.says("16: FAULTS that were gone by DEEDS are counted as they were");
        OffThenOn y = Check.with(FULL);
        y.strike(7);
        y.cable(5, 0);
        c.is("gone", y.now(5) * 10 + y.now(4), 11);
        y.undo();
        c.is("undone", y.now(5) * 10 + y.now(4), 0);
    }

    private static final int[] SEEDS = new int[20];

    /** For each draw of 20 a seed whose first draw of 30 is not 0, and whose next draw is that one. */
    private static void findSeeds() {
        for (int i = 0; i < 5000; i++) {
            int s = next(i * 7919);
            if ((s >>> 8) % 30 != 0) {
                SEEDS[(next(s) >>> 8) % 20] = i * 7919;
            }
        }
    }

    private static void drawnSwitches() {
        findSeeds();
        c.says("DRAWN: a draw of 20: 0: it is switched OFF, if it can be");
        for (int d = 0; d < 20; d++) {
            OffThenOn x = Check.with("thing a 3 0;fault f a 0 1 1;cures f off 12;");
            x.strike(0);
            x.drawn(1, SEEDS[d]);
            c.is("up, a draw of " + d, x.thing(0, 3) * 10 + x.thing(0, 4), d == 0 ? 1 : 20);
            c.is("no deed", x.now(4) * 10 + x.now(3), 1);
        }
        c.says("DRAWN: a draw of 20: 1, 2, 3: it is switched ON, if it can be (its DEED by the same draws)");
        for (int d = 0; d < 20; d++) {
            OffThenOn x = Check.with("thing a 3 0;fault f a 0 1 1;cures f off 12;");
            x.strike(0);
            x.off(0);
            x.drawn(1, SEEDS[d]);
            boolean on = d >= 1 && d <= 3;
            c.is("off, a draw of " + d, x.thing(0, 3) * 10 + x.thing(0, 4), on ? 12 : 1);
            c.is("a deed", x.now(4) * 100 + x.now(5) * 10 + x.now(3), on ? 110 : 1);
            OffThenOn y = Check.with("thing a 3 1;");
            y.off(0);
            y.drawn(1, SEEDS[d]);
            c.is("too early, a draw of " + d, y.thing(0, 3) * 10 + y.thing(0, 4), 1);
        }
    }

    private static void drawnEdges() {
        c.says("34: n (1 to 60) MINUTES DRAWN by a seed: how many went by");
        OffThenOn x = Check.with(FULL);
        c.is("1", x.drawn(1, Integer.MAX_VALUE), 1);
        c.is("60", x.drawn(60, Integer.MIN_VALUE), 60);
        c.is("minute", x.now(0), 61);
        OffThenOn y = atMinute(FULL, 955);
        c.is("as many as are left", y.drawn(60, 3), 45);
        c.is("none is left", y.drawn(60, 3), 0);
        c.says("34: NONE: not as told");
        for (int no : NO_MINUTES) {
            Seen.refused(c, "drawn " + no, z -> z.drawn(no, 1), -1);
        }
        c.says("34: NONE: no THINGS");
        OffThenOn e = new OffThenOn();
        c.is("none", e.drawn(1, 1), -1);
        c.is("minute", e.now(0), 0);
        c.says("DRAWN: a draw of all FAULTS (none: no draw)");
        drawnOnce("thing a 1 0;", 0);
        drawnOnce("thing a 1 0;fault f a 0 1 1;", 1);
        drawnOnce("thing a 1 0;fault f a 0 1 1;fault g a 0 1 1;fault h a 0 1 1;", 3);
        c.says("DRAWN: it STRIKES, if it can; it is switched OFF, ON, if it can be");
        OffThenOn z = Check.with("thing a 30 20;fault f a 0 1 1;");
        z.strike(0);
        z.off(0);
        for (int i = 0; i < 5; i++) {
            c.is("as many went by", z.drawn(4, i), 4);
        }
        c.is("once struck, off since then", z.trouble(0, 6) * 100 + z.thing(0, 4), 120);
    }

    /** One MINUTE DRAWN by seeds whose draw of 30 is 0, and by those whose draw is not. */
    private static void drawnOnce(String house, int faults) {
        int struck = 0;
        // Small seeds that come one behind the other draw much alike.
        for (int i = 0; i < 300; i++) {
            int seed = i * 7919;
            int s = next(seed);
            boolean strikes = (s >>> 8) % 30 == 0;
            if (!strikes && i % 10 != 0) {
                continue;
            }
            int there = 0;
            if (strikes && faults > 0) {
                s = next(s);
                there = 1 << (s >>> 8) % faults;
                struck++;
            }
            s = next(s);
            OffThenOn x = Check.with(house);
            x.drawn(1, seed);
            c.is("there with " + seed, x.now(3), there);
            c.is("up with " + seed, x.now(2), (s >>> 8) % 20 == 0 ? 0 : 1);
        }
        c.is("some struck", struck > 0, faults > 0);
    }

    private static void imageOfSentence() {
        c.says("40: HOUSE, all that is so and the SENTENCE are kept");
        OffThenOn x = Check.with("thing a 1 0;thing b 1 0;");
        x.image(0);
        Check.sentence(x, "number=1");
        x.image(1);
        Check.sentence(x, "up");
        x.restore(1);
        c.is("the one that was kept", x.said(-1) * 10 + x.said(0), 11);
        x.restore(0);
        c.is("none was", x.said(-1), -1);
        c.says("41: a HOUSE of another size is as it was kept");
        OffThenOn y = Check.with(FULL);
        y.strike(7);
        y.minutes(3);
        String full = Seen.all(y);
        y.image(0);
        y.house();
        y.image(1);
        c.is("none of any", y.count(0) + y.count(1) + y.count(2), 0);
        y.restore(0);
        c.is("all", Seen.all(y), full);
        c.is("six, eight, one", y.count(0) * 100 + y.count(1) * 10 + y.count(2), 681);
        y.restore(1);
        c.is("none of any again", y.count(0) + y.count(1) + y.count(2) + y.off(0) + y.strike(0), -2);
    }

    private static void imageEdges() {
        c.says("40: false: no such one");
        for (int no : new int[] {-1, 2, Integer.MIN_VALUE, Integer.MAX_VALUE}) {
            Seen.refused(c, "image " + no, x -> x.image(no) ? 1 : 0, 0);
            c.says("41: false: no such one");
            Seen.refused(c, "restore " + no, x -> x.restore(no) ? 1 : 0, 0);
        }
        c.says("41: false: nothing is kept there");
        Seen.refused(c, "restore 1", x -> x.restore(1) ? 1 : 0, 0);
        OffThenOn e = new OffThenOn();
        c.is("of a new object", e.restore(0) || e.restore(1), false);
        c.is("an empty house is something", e.image(1) && e.restore(1), true);
        c.is("the other place is still empty", e.restore(0), false);
        c.says("41: They are as kept in place k");
        OffThenOn x = Seen.lived();
        String before = Seen.all(x);
        c.is("image", x.image(1), true);
        c.is("an image changes nothing", Seen.all(x), before);
        x.minutes(9);
        x.pin(0, 4);
        x.strike(1);
        c.is("restore", x.restore(1), true);
        c.is("as kept", Seen.all(x), before);
        c.says("41: nothing can be undone");
        c.is("none", x.undo(), -1);
        c.says("41: the tape, and what other calls told last, stays");
        OffThenOn y = new OffThenOn();
        y.image(0);
        Check.house(y, Seen.HOUSE);
        y.plan(0, 1, 0);
        Check.feed(y, 1, 3, 0, 4);
        y.helped();
        y.look(3);
        y.tell(1);
        Check.log(y, "a on 1;", 0);
        Check.log(y, "nobody off;", 0);
        Check.feed(y, Seen.TAPE);
        y.image(1);
        c.is("restore", y.restore(0), true);
        c.is("plan", y.planAt(0) * 10 + y.planAt(1), 3);
        c.is("ways", y.lots(), 2);
        c.is("left", y.left(), 1);
        c.is("tell", y.byteAt(0), (int) 'b');
        c.is("log", y.logged(0), 11);
        c.is("fault", y.fault(), 3);
        c.is("tape", y.count(3), Seen.TAPE.length());
        c.is("no things", y.count(0), 0);
        c.is("the bytes", y.house(), 2);
        c.is("restore", y.restore(1), true);
        c.is("two things", y.count(0), 2);
        c.says("40: an image of an image's place is the latest one");
        OffThenOn z = Check.with("thing a 1 0;");
        z.image(0);
        z.minutes(5);
        z.image(0);
        z.minutes(5);
        z.restore(0);
        c.is("minute", z.now(0), 5);
        z.minutes(2);
        z.restore(0);
        c.is("as often as is asked", z.now(0), 5);
    }
}
