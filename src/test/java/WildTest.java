import java.util.Random;

/** Any arguments in any state: nothing but the exception that the document names ever comes out. */
public final class WildTest {
    private static final int[] WILD = {Integer.MIN_VALUE, Integer.MIN_VALUE + 1, -1000, -2, -1, 0, 1, 2, 3, 5, 6, 7, 8, 9, 30, 31, 32, 33,
        60, 61, 63, 64, 255, 256, 900, 940, 1000, Integer.MAX_VALUE - 1, Integer.MAX_VALUE};
    private static final int CALLS = 41;

    public static void main(String[] args) {
        Check c = new Check();
        Random r = new Random(5);
        String[] houses = {"", "thing a 1 0;", "thing a 30 20;thing b 30 20 behind a;fault f b 200 99 15;cures f pin 12;",
            "thing a 1 0;thing b 1 0 behind a;thing c 1 0 behind b;thing d 1 0 behind c;thing e 1 0 behind d;thing f 1 0 behind e;"
                + "fault g a 1 1 1;fault h b 1 1 1;fault i c 1 1 1;fault j d 1 1 1;fault k e 1 1 1;fault l f 1 1 1;fault m f 0 99 15;"
                + "fault n f 0 99 15;cures n pin 12;cures n off 12;cures n cable 12;"};
        int calls = 0;
        for (int run = 0; run < 400; run++) {
            OffThenOn x = Check.with(houses[run % houses.length]);
            for (int i = 0; i < 500; i++) {
                int which = r.nextInt(CALLS);
                int a = WILD[r.nextInt(WILD.length)];
                int b = WILD[r.nextInt(WILD.length)];
                int d = WILD[r.nextInt(WILD.length)];
                String call = "call " + which + " (" + a + ", " + b + ", " + d + ") in run " + run;
                try {
                    Check.of(() -> go(x, which, a, b, d, r));
                } catch (RuntimeException e) {
                    c.is(call, e.toString(), "no such exception");
                }
                calls++;
            }
        }
        c.is("calls", calls, 200000);
        c.close();
    }

    private static int go(OffThenOn x, int which, int a, int b, int d, Random r) {
        switch (which) {
            case 0: return x.feed(r.nextInt(), r.nextInt(), a, b, d);
            case 1: return x.end(a) ? 1 : 0;
            case 2: return r.nextInt(6) == 0 ? x.house() : 0;
            case 3: return x.fault();
            case 4: return x.thing(a, b);
            case 5: return x.trouble(a, b);
            case 6: return x.cures(a, b);
            case 7: return x.now(a);
            case 8: return x.off(a);
            case 9: return x.on(a, b);
            case 10: return x.cable(a, b);
            case 11: return x.pin(a, b);
            case 12: return x.strike(a);
            case 13: return x.minutes(a);
            case 14: return x.undo();
            case 15: return x.what();
            case 16: return x.likely(a, b);
            case 17: return x.plan(a, b, d);
            case 18: return x.planAt(a);
            case 19: return x.ready(a);
            case 20: return x.starts(a);
            case 21: return x.helped();
            case 22: return x.lots();
            case 23: return x.alike(a);
            case 24: return x.kinds();
            case 25: return x.look(a);
            case 26: return x.left();
            case 27: return x.fits(a);
            case 28: return x.heals(a);
            case 29: return x.worksIn(a);
            case 30: return x.tell(a);
            case 31: return x.byteAt(a);
            case 32: return x.drawn(a, b);
            case 33: return x.odds(a, b, d);
            case 34: return x.log(a);
            case 35: return x.logged(a);
            case 36: return x.sentence();
            case 37: return x.said(a);
            case 38: return x.image(a) ? 1 : 0;
            case 39: return x.restore(a) ? 1 : 0;
            default: return x.count(a);
        }
    }
}
