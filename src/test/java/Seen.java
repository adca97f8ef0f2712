import java.util.function.Consumer;
import java.util.function.ToIntFunction;

/** All that can be seen of an object, and calls that must leave all of it as it was. */
final class Seen {
    static final String HOUSE = "thing a 2 3;thing b 1 0 behind a;fault f a 9 10 3;fault g b 0 20 7;cures f off 6;cures g cable 12;";

    /** A text that is right as a HOUSE, with a length of its own: so the tape can be seen, too. */
    static final String TAPE = "thing z 7 7;fault y z 1 1 1;";

    private Seen() {
    }

    /** Something was asked, told, done, kept and wrong already: f is there, b is OFF, a BOOTS. */
    static OffThenOn lived() {
        OffThenOn x = Check.with(HOUSE);
        Check.feed(x, 1, 7);
        x.what();
        x.plan(0, 1, 0);
        Check.feed(x, 1, 3, 0, 4, 0, 4);
        x.helped();
        x.look(3);
        x.image(0);
        x.off(0);
        x.minutes(3);
        x.on(0, 1);
        x.strike(0);
        x.minutes(1);
        x.off(1);
        x.tell(1);
        Check.log(x, "minute 1;b off;", 0);
        Check.sentence(x, "not boots");
        Check.sentence(x, "has nobody");
        Check.feed(x, TAPE);
        return x;
    }

    /** What calls answer that change nothing; of one object with few THINGS and FAULTS some hundred calls. */
    static String all(OffThenOn x) {
        StringBuilder s = new StringBuilder("fault ").append(x.fault());
        row(s, " count", 4, x::count);
        row(s, " now", 7, x::now);
        for (int t = 0; t < x.count(0); t++) {
            int thing = t;
            row(s, " thing", 9, i -> x.thing(thing, i));
        }
        for (int f = 0; f < x.count(1); f++) {
            int fault = f;
            row(s, " trouble", 8, i -> x.trouble(fault, i));
            row(s, " cures", 3, i -> x.cures(fault, i));
            row(s, " likely", 2, i -> Check.of(() -> x.likely(fault, i)));
        }
        row(s, " planAt", 4, x::planAt);
        s.append(" lots ").append(x.lots()).append(" left ").append(x.left());
        row(s, " byteAt", 10, x::byteAt);
        row(s, " logged", 4, x::logged);
        row(s, " said", 3, i -> x.said(i - 1));
        return s.toString();
    }

    private static void row(StringBuilder s, String name, int n, ToIntFunction<Integer> call) {
        s.append(name);
        for (int i = 0; i < n; i++) {
            s.append(' ').append(call.applyAsInt(i));
        }
    }

    /** The call answers so (or THROWS), and all is as if it had not been made. */
    static void refused(Check c, String what, ToIntFunction<OffThenOn> call, int answer) {
        compared(c, what, call, answer, y -> { });
    }

    /** The call answers so (or THROWS), takes the tape, and leaves all else as it was. */
    static void tapeTaken(Check c, String what, ToIntFunction<OffThenOn> call, int answer) {
        compared(c, what, call, answer, y -> y.end(0));
    }

    private static void compared(Check c, String what, ToIntFunction<OffThenOn> call, int answer, Consumer<OffThenOn> twin) {
        OffThenOn x = lived();
        OffThenOn y = lived();
        c.is(what, Check.of(() -> call.applyAsInt(x)), answer);
        twin.accept(y);
        c.is(what + ": all stays", all(x), all(y));
        for (int i = 0; i < 7; i++) {
            c.is(what + ": what can be undone stays", x.undo(), y.undo());
            c.is(what + ": undone it stays", x.now(0) * 10000 + x.now(2) * 100 + x.now(3), y.now(0) * 10000 + y.now(2) * 100 + y.now(3));
        }
        c.is(what + ": the image stays", x.restore(0), y.restore(0));
        c.is(what + ": the other place stays empty", x.restore(1), y.restore(1));
        c.is(what + ": as kept", x.now(0) * 10000 + x.now(2) * 100 + x.now(3), y.now(0) * 10000 + y.now(2) * 100 + y.now(3));
        c.is(what + ": the bytes of the tape stay", x.house(), y.house());
        c.is(what + ": the tape was a house", x.count(0) * 10 + x.count(1), y.count(0) * 10 + y.count(1));
    }
}
