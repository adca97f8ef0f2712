import java.util.NoSuchElementException;
import java.util.Objects;
import java.util.function.IntSupplier;

/** Counts answers that are not as due, and feeds texts to an object. */
final class Check {
    static final int THROWS = Integer.MIN_VALUE;

    private String sentence = "";
    private int wrong;
    private int looked;

    /** What is looked at from here on stands for this sentence of the document. */
    void says(String words) {
        sentence = words + " | ";
    }

    void is(String what, Object got, Object due) {
        looked++;
        if (!Objects.equals(got, due)) {
            wrong++;
            if (wrong <= 40) {
                System.out.println(sentence + what + ": " + got + ", due is " + due);
            }
        }
    }

    void close() {
        System.out.println(looked + " looked at, " + wrong + " not as due");
        if (wrong != 0 || looked == 0) {
            System.exit(1);
        }
    }

    /** What a call answers, or THROWS for the exception that the document names. */
    static int of(IntSupplier call) {
        try {
            return call.getAsInt();
        } catch (NoSuchElementException e) {
            return THROWS;
        }
    }

    static OffThenOn with(String house) {
        OffThenOn x = new OffThenOn();
        feed(x, house);
        int lines = x.house();
        if (lines < 0) {
            throw new IllegalStateException("a test's house is wrong at " + (-1 - lines) + ": " + house);
        }
        return x;
    }

    static void feed(OffThenOn x, String text) {
        byte[] bytes = new byte[text.length()];
        for (int i = 0; i < bytes.length; i++) {
            bytes[i] = (byte) text.charAt(i);
        }
        feed(x, bytes);
    }

    static void feed(OffThenOn x, int... bytes) {
        byte[] row = new byte[bytes.length];
        for (int i = 0; i < row.length; i++) {
            row[i] = (byte) bytes[i];
        }
        feed(x, row);
    }

    static void feed(OffThenOn x, byte[] bytes) {
        int before = x.count(3);
        for (int i = 0; i < bytes.length; i += 20) {
            int[] n = new int[5];
            for (int j = 0; j < 20; j++) {
                int b = i + j < bytes.length ? bytes[i + j] & 255 : 0;
                n[j / 4] = n[j / 4] << 8 | b;
            }
            if (x.feed(n[0], n[1], n[2], n[3], n[4]) == OffThenOn.NONE) {
                throw new IllegalStateException("a test feeds too much");
            }
        }
        if (!x.end(before + bytes.length)) {
            throw new IllegalStateException("a test's bytes did not come");
        }
    }

    static int house(OffThenOn x, String text) {
        feed(x, text);
        return x.house();
    }

    static int log(OffThenOn x, String text, int lives) {
        feed(x, text);
        return x.log(lives);
    }

    static int sentence(OffThenOn x, String text) {
        feed(x, text);
        return x.sentence();
    }

    static String told(OffThenOn x, int t) {
        int n = x.tell(t);
        StringBuilder b = new StringBuilder();
        for (int i = 0; i < n; i++) {
            b.append((char) x.byteAt(i));
        }
        return b.toString();
    }
}
