/** Each sentence on texts and the tape that names an edge: too small, too large, empty, full, refused. */
public final class TextEdgesTest {
    private static final String TWO = "thing a 1 0;thing b 1 0 behind a;fault f a 0 1 1;";
    private static final String FIVE = "thing a 1 0;thing b 1 0;thing c 1 0;thing d 1 0;thing e 1 0;";

    private static final Check c = new Check();

    public static void main(String[] args) {
        tape();
        tokens();
        houseNumbers();
        houseNames();
        houseMost();
        houseEnd();
        everyTokenOfAHouse();
        houseStays();
        newHouse();
        kindsOfWrong();
        logNumbers();
        logMost();
        logEnd();
        everyTokenOfALog();
        logAnswers();
        logLived();
        logWhys();
        sentenceNumbers();
        sentenceMost();
        sentenceEnd();
        everyTokenOfASentence();
        saidEdges();
        saidOfTheLongest();
        c.close();
    }

    private static void house(String text, int lines) {
        OffThenOn x = new OffThenOn();
        c.is("house " + text, Check.house(x, text), lines);
        c.is("fault of " + text, x.fault(), 0);
    }

    private static void wrongHouse(String text, int kind, int place) {
        OffThenOn x = new OffThenOn();
        c.is("house " + text, Check.house(x, text), -1 - place);
        c.is("fault of " + text, x.fault(), kind);
    }

    private static void log(String text) {
        OffThenOn x = Check.with(TWO);
        c.is("log " + text, Check.log(x, text, 0), -1);
        c.is("fault of " + text, x.fault(), 0);
    }

    private static void wrongLog(String text, int kind, int place) {
        OffThenOn x = Check.with(TWO);
        c.is("log " + text, Check.log(x, text, 0), -2 - place);
        c.is("fault of " + text, x.fault(), kind);
    }

    private static void sentence(String text, int ones) {
        OffThenOn x = Check.with(TWO);
        c.is("sentence " + text, Check.sentence(x, text), ones);
        c.is("fault of " + text, x.fault(), 0);
    }

    private static void wrongSentence(String text, int kind, int place) {
        OffThenOn x = Check.with(TWO);
        c.is("sentence " + text, Check.sentence(x, text), -1 - place);
        c.is("fault of " + text, x.fault(), kind);
    }

    private static void tape() {
        c.says("1: An empty HOUSE; an empty tape");
        OffThenOn x = new OffThenOn();
        for (int i = 0; i < 4; i++) {
            c.is("count " + i, x.count(i), 0);
        }
        c.is("an end of none", x.end(0), true);
        c.says("42: NONE for another what");
        for (int no : new int[] {-1, 4, Integer.MIN_VALUE, Integer.MAX_VALUE}) {
            c.is("count " + no, x.count(no), -1);
        }
        c.says("2: Twenty bytes come behind the tape");
        c.is("the first", x.feed(-1, -1, -1, -1, -1), 20);
        c.is("the second", x.feed(0, 0, 0, 0, 0), 40);
        c.says("2: of each number the highest first");
        OffThenOn y = new OffThenOn();
        y.feed(0x7468696e, 0x67206120, 0x31203020, 0x3b746869, 0x6e672062);
        y.feed(0x20333020, 0x32303b20, 0x20202020, 0x20202020, 0x20202020);
        c.is("a house of two lines", y.house(), 2);
        c.is("b", y.thing(1, 0) * 100 + y.thing(1, 1), 3020);
        c.says("2: NONE, and none come, if it would have more than 940");
        for (int i = 3; i <= 47; i++) {
            c.is("feed " + i, x.feed(1, 2, 3, 4, 5), 20 * i);
        }
        c.is("feed 48", x.feed(1, 2, 3, 4, 5), -1);
        c.is("none came", x.count(3), 940);
        x.end(921);
        c.is("one byte too many", x.feed(1, 2, 3, 4, 5), -1);
        c.is("none came", x.count(3), 921);
        x.end(920);
        c.is("just full", x.feed(1, 2, 3, 4, 5), 940);
        endEdges();
    }

    private static void endEdges() {
        c.says("3: The tape has its first n bytes alone");
        OffThenOn x = new OffThenOn();
        Check.feed(x, "thing a 1 0;thing b 1 0;");
        c.is("end 12", x.end(12), true);
        c.is("twelve", x.count(3), 12);
        c.is("the first line", x.house(), 1);
        c.is("end 0 of none", x.end(0), true);
        c.says("3: false, if it has not so many, or n is below 0");
        for (int no : new int[] {-1, Seen.TAPE.length() + 1, 940, 941, Integer.MIN_VALUE, Integer.MAX_VALUE}) {
            Seen.refused(c, "end " + no, z -> z.end(no) ? 1 : 0, 0);
        }
        c.is("as many as it has", Seen.lived().end(Seen.TAPE.length()), true);
        c.says("2: NONE, and none come: a full tape stays as it is");
        OffThenOn full = new OffThenOn();
        Check.feed(full, "thing a 1 0;" + " ".repeat(928));
        c.is("full", full.feed(0x3f3f3f3f, 0x3f3f3f3f, 0x3f3f3f3f, 0x3f3f3f3f, 0x3f3f3f3f), -1);
        full.end(900);
        c.is("no byte of it came", full.house(), 1);
    }

    private static void tokens() {
        c.says("TOKENS, with blanks (32, 10) between them or not");
        house("thing a 1 0;thing b 1 0;", 2);
        house("\n thing\n\na\n1  0 ;\n\n thing b 1 0;\n ", 2);
        for (int no : new int[] {0, 9, 11, 13, 31, 33, 127, 128, 160, 255}) {
            wrongHouse("thing" + (char) no + "a 1 0;", 1, 5);
            wrongHouse((char) no + "", 1, 0);
        }
        c.says("WORDS: small letters, 1 to 7");
        house("thing z 1 0;fault abcdefg z 1 1 1;", 2);
        wrongHouse("thing abcdefgh 1 0;", 1, 6);
        wrongHouse("thing aA 1 0;", 1, 7);
        wrongHouse("thing ` 1 0;", 1, 6);
        wrongHouse("thing { 1 0;", 1, 6);
        wrongHouse("thing Z 1 0;", 1, 6);
        wrongHouse("things a 1 0;", 1, 0);
        wrongSentence("a".repeat(190), 1, 0);
        c.says("NUMBERS: 1 to 3 digits");
        house("thing a 1 0;thing b 09 00;thing c 010 020;", 3);
        wrongHouse("thing a 0001 0;", 1, 8);
        wrongHouse("thing a 0000 0;", 1, 8);
        wrongHouse("thing a " + "9".repeat(40) + " 0;", 1, 8);
        wrongHouse("thing a / 0;", 1, 8);
        wrongHouse("thing a : 0;", 1, 8);
        wrongHouse("thing a -1 0;", 1, 8);
        c.says("A WORD, NUMBER goes on as long as small letters and digits do");
        wrongHouse("thinga 1 0;", 1, 0);
        wrongHouse("thing a1 0;", 1, 6);
        wrongHouse("thing 1a 0;", 1, 6);
        wrongHouse("thing a 1 0behind;", 1, 10);
        wrongHouse("thing a 1z 0;", 1, 8);
        sentence("lamp<1 or(up)and(not(boots))", 7);
        wrongSentence("lamp<1or up", 1, 5);
        c.says("TOKENS: ; < = > ( )");
        for (String no : new String[] {"?", "*", "'", ".", ",", "!", "[", ":"}) {
            wrongSentence("lamp" + no + "3", 1, 4);
            wrongSentence("up" + no, 1, 2);
        }
    }

    private static void houseNumbers() {
        c.says("BOOT: 1 to 30 MINUTES");
        house("thing a 1 0;thing b 30 0;", 2);
        wrongHouse("thing a 0 0;", 2, 8);
        wrongHouse("thing a 31 0;", 2, 8);
        wrongHouse("thing a 999 0;", 2, 8);
        c.says("WAIT: 0 to 20 MINUTES");
        house("thing a 1 0;thing b 1 20;", 2);
        wrongHouse("thing a 1 21;", 2, 10);
        wrongHouse("thing a 30 030;", 2, 11);
        c.says("HEALS: 0 to 200 MINUTES");
        house("thing a 1 0;fault f a 0 1 1;fault g a 200 1 1;", 3);
        wrongHouse("thing a 1 0;fault f a 201 1 1;", 2, 22);
        c.says("ODDS: 1 to 99");
        house("thing a 1 0;fault f a 0 1 1;fault g a 0 99 1;", 3);
        wrongHouse("thing a 1 0;fault f a 0 0 1;", 2, 24);
        wrongHouse("thing a 1 0;fault f a 0 100 1;", 2, 24);
        c.says("SHOWS: 1 to 15");
        house("thing a 1 0;fault f a 0 1 1;fault g a 0 1 15;", 3);
        wrongHouse("thing a 1 0;fault f a 0 1 0;", 2, 26);
        wrongHouse("thing a 1 0;fault f a 0 1 16;", 2, 26);
        c.says("'cures' N: 1 to 12");
        house("thing a 1 0;fault f a 0 1 1;cures f off 1;cures f pin 12;", 4);
        wrongHouse("thing a 1 0;fault f a 0 1 1;cures f off 0;", 2, 40);
        wrongHouse("thing a 1 0;fault f a 0 1 1;cures f cable 13;", 2, 42);
        c.says("DEED: 'off', 'cable', 'pin'");
        for (String no : new String[] {"on", "call", "a", "f", "5", ";", "strikes"}) {
            wrongHouse("thing a 1 0;fault f a 0 1 1;cures f " + no + " 1;", 1, 36);
        }
        c.says("without 'behind': on the wall");
        OffThenOn x = Check.with("thing a 1 0;thing b 1 0 behind a;");
        c.is("a", x.thing(0, 2), -1);
        c.is("b", x.thing(1, 2), 0);
        wrongHouse("thing a 1 0 behind;", 1, 18);
    }

    private static void houseNames() {
        c.says("NAME: a WORD, none of those told here, in a LOG or a SENTENCE");
        for (String taken : Model.TAKEN) {
            wrongHouse("thing " + taken + " 1 0;", 1, 6);
            wrongHouse("thing a 1 0;fault " + taken + " a 0 1 1;", 1, 18);
            wrongHouse("thing a 1 0;fault f " + taken + " 0 1 1;", 1, 20);
            wrongHouse("thing a 1 0 behind " + taken + ";", 1, 19);
            wrongHouse("thing a 1 0;fault f a 0 1 1;cures " + taken + " off 1;", 1, 34);
        }
        house("thing offs 1 0;thing o 1 0;thing minutes 1 0;thing fits 1 0;", 4);
        c.says("NAME: told once");
        wrongHouse("thing a 1 0;thing b 1 0;thing a 1 0;", 3, 30);
        wrongHouse(TWO + "thing f 1 0;", 3, TWO.length() + 6);
        wrongHouse(TWO + "fault b a 0 1 1;", 3, TWO.length() + 6);
        wrongHouse(TWO + "fault f a 0 1 1;", 3, TWO.length() + 6);
        house("thing abcdefg 1 0;thing abcdef 1 0;thing bcdefg 1 0;thing a 1 0;thing aa 1 0;", 5);
        c.says("3 a NAME not told");
        wrongHouse("thing a 1 0 behind b;thing b 1 0;", 3, 19);
        wrongHouse("thing a 1 0 behind a;", 3, 19);
        wrongHouse("fault f a 0 1 1;", 3, 8);
        wrongHouse("cures f off 1;", 3, 6);
        wrongHouse("thing a 1 0;fault f f 0 1 1;", 3, 20);
        c.says("3 a NAME of another sort");
        wrongHouse(TWO + "thing c 1 0 behind f;", 3, TWO.length() + 19);
        wrongHouse(TWO + "fault g f 0 1 1;", 3, TWO.length() + 8);
        wrongHouse(TWO + "cures a off 1;", 3, TWO.length() + 6);
        c.says("each two once; 3 a DEED told again for a FAULT (at it)");
        house(TWO + "fault g a 0 1 1;cures f off 1;cures g off 1;cures f pin 1;", 7);
        wrongHouse(TWO + "cures f off 1;cures f off 2;", 3, TWO.length() + 22);
        wrongHouse(TWO + "cures f pin 12;cures f cable 1;cures f pin 0;", 3, TWO.length() + 39);
    }

    private static String manyFaults(int n) {
        StringBuilder s = new StringBuilder("thing a 1 0;");
        for (int i = 0; i < n; i++) {
            s.append("fault x").append((char) ('a' + i)).append(" a 0 1 1;");
        }
        return s.toString();
    }

    private static String manyCures(int n) {
        String[] deeds = {"off", "cable", "pin"};
        StringBuilder s = new StringBuilder(manyFaults(8));
        for (int i = 0; i < n; i++) {
            s.append("cures x").append((char) ('a' + i / 3)).append(' ').append(deeds[i % 3]).append(" 1;");
        }
        return s.toString();
    }

    private static void houseMost() {
        c.says("6 THINGS at most; 4 one more (at the LINE's first WORD)");
        house(FIVE + "thing f 1 0;", 6);
        wrongHouse(FIVE + "thing f 1 0; thing g 1 0;", 4, FIVE.length() + 13);
        wrongHouse(FIVE + "thing f 1 0;thing", 4, FIVE.length() + 12);
        wrongHouse(FIVE + "thing f 1 0;thing a 99 99;", 4, FIVE.length() + 12);
        house(FIVE + "thing f 1 0;fault g f 0 1 1;cures g off 1;", 8);
        c.says("8 FAULTS at most; 4 one more (at the LINE's first WORD)");
        house(manyFaults(8), 9);
        wrongHouse(manyFaults(9), 4, manyFaults(8).length());
        wrongHouse(manyFaults(8) + "\nfault xa", 4, manyFaults(8).length() + 1);
        house(manyFaults(8) + "thing b 1 0;cures xh pin 1;", 11);
        c.says("16 'cures' at most; 4 one more (at the LINE's first WORD)");
        house(manyCures(16), 25);
        wrongHouse(manyCures(17), 4, manyCures(16).length());
        wrongHouse(manyCures(16) + "cures nobody", 4, manyCures(16).length());
        house(manyCures(16) + "thing b 1 0;", 26);
        c.says("6 THINGS, 8 FAULTS, 16 'cures' in one HOUSE");
        String most = manyCures(16) + "thing b 1 0;thing c 1 0;thing d 1 0;thing e 1 0;thing f 1 0;";
        house(most, 30);
        wrongHouse(most + "thing", 4, most.length());
        wrongHouse(most + "fault", 4, most.length());
        wrongHouse(most + "cures", 4, most.length());
        wrongHouse(most + "other", 1, most.length());
        wrongHouse(most + ";", 1, most.length());
        wrongHouse(most + "?", 1, most.length());
        c.says("THINGS, FAULTS numbered from 0 each");
        OffThenOn x = Check.with(manyFaults(8) + "thing b 2 0;");
        c.is("the first fault is of the first thing", x.trouble(0, 0), 0);
        c.is("the last fault", x.trouble(7, 3), 1);
        c.is("b is 1", x.thing(1, 0), 2);
    }

    private static void houseEnd() {
        String line = "thing a 1 0;";
        c.says("A HOUSE is a text of LINES: none is fine");
        house("", 0);
        house(" \n", 0);
        house(" ".repeat(900), 0);
        c.says("A HOUSE is a text of at most 900 bytes");
        house(line + " ".repeat(888), 1);
        house(" ".repeat(888) + line, 1);
        wrongHouse(line + " ".repeat(889), 1, 900);
        wrongHouse(" ".repeat(901), 1, 900);
        wrongHouse(" ".repeat(889) + line, 1, 900);
        wrongHouse(line + " ".repeat(928), 1, 900);
        c.says("1 the end: how many bytes there are");
        String[] cut = {"thing", "thing a", "thing a 1", "thing a 1 0", "thing a 1 0 behind", "thing a 1 0;fault", "thing a 1 0;cures  \n"};
        for (String text : cut) {
            wrongHouse(text, 1, text.length());
        }
        wrongHouse(line + "thing b 1 0" + " ".repeat(877), 1, 900);
        c.says("1 the most bytes told, if there are more and nothing is wrong ahead");
        wrongHouse(" ".repeat(900) + "?", 1, 900);
        wrongHouse(" ".repeat(900) + "thing a 0 0;", 1, 900);
        wrongHouse(" ".repeat(899) + "?" + " ".repeat(9), 1, 899);
        wrongHouse("?" + " ".repeat(919), 1, 0);
        wrongHouse("thing a 31 0;" + " ".repeat(919), 2, 8);
        wrongHouse(line + line + " ".repeat(900), 3, 18);
        wrongHouse(FIVE + "thing f 1 0;thing g 1 0;" + " ".repeat(840), 4, FIVE.length() + 12);
        wrongHouse("thing a 1" + " ".repeat(920), 1, 900);
        c.says("TOKENS that begin ahead of it are read whole");
        wrongHouse(" ".repeat(899) + "thing", 1, 900);
        wrongHouse(" ".repeat(899) + "thong", 1, 899);
        wrongHouse(" ".repeat(893) + "thing abcdefg 1 0;", 1, 900);
        wrongHouse(" ".repeat(893) + "thing abcdefgh 1 0;", 1, 899);
        wrongHouse(" ".repeat(891) + "thing a 31 0;", 2, 899);
        wrongHouse(" ".repeat(891) + "thing a 30 0;", 1, 900);
        wrongHouse(line + " ".repeat(880) + "thing ab 1 0;", 1, 900);
        wrongHouse("thing ab 1 0;" + " ".repeat(880) + "thing ab 1 0;", 3, 899);
        wrongHouse("thing a 1 0" + " ".repeat(888) + "; ", 1, 900);
        wrongHouse("thing a 1 0" + " ".repeat(889) + ";", 1, 900);
    }

    private static final String[] TOKENS = ("thing a 1 0 ; thing b 30 20 behind a ; fault f a 200 99 15 ; cures f off 12 ; "
            + "cures f pin 1 ; fault g b 0 1 1 ; cures g cable 1 ; thing h 1 0 ;").split(" ");

    private static String join(String[] tokens, int n) {
        return String.join(" ", java.util.Arrays.copyOf(tokens, n));
    }

    private static void everyTokenOfAHouse() {
        int lines = 0;
        for (int n = 0; n < TOKENS.length; n++) {
            String ahead = join(TOKENS, n);
            int place = ahead.length() + (n == 0 ? 0 : 1);
            boolean whole = n == 0 || TOKENS[n - 1].equals(";");
            c.says("1 the end, behind each TOKEN of a HOUSE");
            if (whole) {
                house(ahead, lines);
            } else {
                wrongHouse(ahead, 1, ahead.length());
            }
            c.says("1 no TOKEN (at it), in the place of each TOKEN of a HOUSE");
            wrongHouse(ahead + " ?".substring(n == 0 ? 1 : 0), 1, place);
            wrongHouse(ahead + " abcdefgh".substring(n == 0 ? 1 : 0), 1, place);
            wrongHouse(ahead + " 1000".substring(n == 0 ? 1 : 0), 1, place);
            c.says("1 a LINE that has no ; is not at its end");
            if (!whole) {
                boolean end = TOKENS[n].equals(";");
                wrongHouse(ahead + " thing q 1 0;" + (end ? "" : ";"), 1, place);
            }
            lines += TOKENS[n].equals(";") ? 1 : 0;
        }
        house(join(TOKENS, TOKENS.length), lines);
    }

    private static void everyTokenOfALog() {
        String[] tokens = "a off ; a on 1 ; b cable 0 ; b pin 999 ; strikes f ; minute 60 ;".split(" ");
        int lines = 0;
        for (int n = 0; n < tokens.length; n++) {
            String ahead = join(tokens, n);
            int place = ahead.length() + (n == 0 ? 0 : 1);
            boolean whole = n == 0 || tokens[n - 1].equals(";");
            c.says("1 the end, behind each TOKEN of a LOG");
            if (whole) {
                log(ahead);
            } else {
                wrongLog(ahead, 1, ahead.length());
            }
            c.says("1 no TOKEN (at it), in the place of each TOKEN of a LOG");
            wrongLog(ahead + " ?".substring(n == 0 ? 1 : 0), 1, place);
            wrongLog(ahead + " 1a".substring(n == 0 ? 1 : 0), 1, place);
            if (!whole) {
                c.says("1 a LINE of a LOG that has no ; is not at its end");
                wrongLog(ahead + " minute 1;", 1, place);
            }
            lines += tokens[n].equals(";") ? 1 : 0;
        }
        c.is("lines", lines, 6);
    }

    private static void everyTokenOfASentence() {
        String[] tokens = ("( works and not up ) or not ( boots or has f and behind a ) and lamp < 3 or down = 0 and number > 1").split(" ");
        int ones = 0;
        for (int n = 0; n < tokens.length; n++) {
            String ahead = join(tokens, n);
            int place = ahead.length() + (n == 0 ? 0 : 1);
            c.says("1 the end, behind each TOKEN of a SENTENCE");
            if (isSentence(n)) {
                sentence(ahead, ones);
            } else {
                wrongSentence(ahead, 1, ahead.length());
            }
            ones += " ( works not up boots has behind lamp down number ".contains(" " + tokens[n] + " ") ? 1 : 0;
            c.says("1 no TOKEN (at it), in the place of each TOKEN of a SENTENCE");
            wrongSentence(ahead + " ?".substring(n == 0 ? 1 : 0), 1, place);
            wrongSentence(ahead + " ;".substring(n == 0 ? 1 : 0), 1, place);
        }
        sentence(join(tokens, tokens.length), 12);
    }

    /** Behind so many TOKENS of the one above it may end. */
    private static boolean isSentence(int n) {
        return n == 6 || n == 17 || n == 21 || n == 25;
    }

    private static void newHouse() {
        c.says("A new HOUSE is as that of a new object: nothing is left of the one ahead of it");
        String other = "thing p 1 0;thing q 1 0;thing r 1 0;fault s q 1 1 1;";
        OffThenOn x = Seen.lived();
        x.end(0);
        x.cable(0, 5);
        x.strike(1);
        x.minutes(9);
        OffThenOn y = Seen.lived();
        y.end(0);
        Check.house(x, other);
        Check.house(y, other);
        c.is("whatever was done", Seen.all(x), Seen.all(y));
        OffThenOn z = Check.with(other);
        String told = "(fault|likely|planAt|lots|left|byteAt|logged)[-0-9 ]*";
        c.is("as of a new object", Seen.all(x).replaceAll(told, ""), Seen.all(z).replaceAll(told, ""));
        c.is("no cures", x.count(2), 0);
        x.off(0);
        c.is("none is behind p", x.now(1), 6);
        x.strike(0);
        c.is("s is of q alone", x.now(1), 4);
        c.is("s is not of p", Check.of(() -> x.plan(0, 1, 0)), Check.THROWS);
        OffThenOn v = Check.with("thing a 1 0;fault f a 0 1 1;cures f cable 12;");
        v.strike(0);
        v.cable(0, 0);
        c.is("gone by a deed", v.now(5), 1);
        Check.house(v, other);
        c.is("none is gone by a deed", v.now(5), 0);
        OffThenOn w = Check.with(manyCures(16));
        c.is("16 again", Check.house(w, manyCures(16)), 25);
        c.is("16", w.count(2), 16);
        c.is("an empty one", w.house(), 0);
        c.is("none of any", w.count(0) + w.count(1) + w.count(2) + w.now(1) + w.now(2), 0);
    }

    private static void logLived() {
        c.says("36: lived: each LINE is done as the call is");
        OffThenOn x = Check.with(Seen.HOUSE);
        OffThenOn y = Check.with(Seen.HOUSE);
        c.is("lived", Check.log(x, "strikes f;strikes g;a off;minute 3;a on 999;b cable 0;minute 60;a cable 4;b off;b on 0;a pin 7;", 1), -1);
        y.strike(0);
        y.strike(1);
        y.off(0);
        y.minutes(3);
        y.on(0, 999);
        y.cable(1, 0);
        y.minutes(60);
        y.cable(0, 4);
        y.off(1);
        y.on(1, 0);
        y.pin(0, 7);
        String told = " logged[-0-9 ]*";
        c.is("alike", Seen.all(x).replaceAll(told, ""), Seen.all(y).replaceAll(told, ""));
        c.is("lines", x.logged(1), 11);
        c.is("all of it is undone at once", x.undo() * 10 + x.now(0), 0);
        c.is("never struck", x.trouble(0, 6) + x.trouble(1, 6) + x.now(5), 0);
        c.says("LOG: SEED 0 to 999: the seed is that of its LINE");
        for (int seed : new int[] {0, 1, 500, 998, 999}) {
            OffThenOn p = Check.with(HALVES);
            OffThenOn q = Check.with(HALVES);
            for (int f = 0; f < 8; f++) {
                p.strike(f);
                q.strike(f);
            }
            Check.log(p, "a cable " + seed + ";", 1);
            q.cable(0, seed);
            c.is("left with " + seed, p.now(3), q.now(3));
            Check.log(p, "a pin " + seed + ";", 1);
            q.pin(0, seed);
            c.is("left with " + seed, p.now(3), q.now(3));
            c.is("with another", p.now(5), q.now(5));
        }
    }

    private static final String HALVES = manyFaults(8) + "cures xa cable 6;cures xb cable 6;cures xc cable 6;cures xd cable 6;"
            + "cures xe cable 6;cures xf pin 6;cures xg pin 6;cures xh pin 6;";

    private static void saidOfTheLongest() {
        c.says("20 ONES: each of them counts");
        OffThenOn x = Check.with(FIVE + "thing f 1 0;");
        said(x, "number=0" + " or number=9".repeat(14) + " or number=5", 16, 0, 5);
        said(x, "up" + " or up".repeat(18) + " and boots", 20, 0, 1, 2, 3, 4, 5);
        said(x, "boots" + " or boots".repeat(18) + " or up", 20, 0, 1, 2, 3, 4, 5);
        said(x, "up" + " and up".repeat(18) + " and boots", 20);
        said(x, "up" + " and up".repeat(17) + " and number<3", 19, 0, 1, 2);
        c.says("'and' binds ahead of 'or', 'not' ahead of both");
        said(x, "number<1 or number>4 and boots", 3, 0);
        said(x, "boots and number<1 or number>4", 3, 5);
        said(x, "(number<1 or number>4)and number>1", 4, 5);
        said(x, "not number<1 and number<2", 3, 1);
        said(x, "not(number<1 and number<2)", 4, 1, 2, 3, 4, 5);
        said(x, "number=1 or not number<3 and number<5", 4, 1, 3, 4);
        c.says("8 within one another: each of them counts");
        said(x, "not ".repeat(7) + "number<2", 8, 2, 3, 4, 5);
        said(x, "not ".repeat(6) + "number<2", 7, 0, 1);
        said(x, "not(not(not(not number<2)))", 8, 0, 1);
        said(x, "number=0 or(number=1 or(number=2 or(number=3 or(number=4 or(number=5 and up)))))", 12, 0, 1, 2, 3, 4, 5);
        said(x, "number=0 or(number=1 or(number=2 or(number=3 or(number=4 and(number=5 or boots)))))", 12, 0, 1, 2, 3);
        c.says("SIGN: < = >, each at its edge");
        said(x, "number<3", 1, 0, 1, 2);
        said(x, "number=3", 1, 3);
        said(x, "number>3", 1, 4, 5);
        said(x, "lamp<18", 1);
        said(x, "lamp=18", 1, 0, 1, 2, 3, 4, 5);
        said(x, "lamp>17", 1, 0, 1, 2, 3, 4, 5);
        x.off(2);
        x.minutes(3);
        said(x, "down<3", 1, 0, 1, 3, 4, 5);
        said(x, "down=3", 1, 2);
        said(x, "down>3", 1);
        said(x, "lamp<1", 1, 2);
        x.on(2, 0);
        said(x, "boots", 1, 2);
        said(x, "lamp=16", 1, 2);
        said(x, "not up", 2, 2);
    }

    private static void said(OffThenOn x, String text, int ones, int... things) {
        c.is(text, Check.sentence(x, text), ones);
        c.is("how many: " + text, x.said(-1), things.length);
        for (int k = 0; k <= things.length; k++) {
            c.is(k + ": " + text, x.said(k), k < things.length ? things[k] : -1);
        }
    }

    private static void houseStays() {
        c.says("4: The tape (empty then, here and below)");
        OffThenOn x = new OffThenOn();
        Check.house(x, "thing a 1 0;");
        c.is("taken", x.count(3), 0);
        c.says("4: -1 less the place of what is wrong: it stays");
        for (String text : new String[] {"?", "thing q 0 0;", "thing q 1 0;thing q 1 0;", FIVE + "thing f 1 0;thing g 1 0;"}) {
            OffThenOn y = Seen.lived();
            OffThenOn z = Seen.lived();
            y.end(0);
            Check.house(y, text);
            z.end(0);
            c.is("all but the kind of what is wrong", Seen.all(y).replaceFirst("fault \\d", ""), Seen.all(z).replaceFirst("fault \\d", ""));
            c.is("what can be undone", y.undo(), z.undo());
        }
        c.says("5: 0 if nothing was, and ahead of any");
        OffThenOn w = new OffThenOn();
        c.is("ahead of any", w.fault(), 0);
        w.end(-1);
        w.what();
        w.fits(0);
        c.is("other calls are none", w.fault(), 0);
        Check.house(w, "thing a 99 0;");
        c.is("wrong", w.fault(), 2);
        w.what();
        w.undo();
        c.is("the latest", w.fault(), 2);
        c.is("an empty house", w.house(), 0);
        c.is("nothing was", w.fault(), 0);
        c.is("no sentence", w.sentence(), -1);
        c.is("wrong again", w.fault(), 1);
        c.is("an empty log", w.log(0), -1);
        c.is("nothing was", w.fault(), 0);
        c.says("5: a log() of -1000 leaves it");
        Check.log(w, "nobody off;", 0);
        c.is("wrong", w.fault(), 3);
        c.is("another lives", w.log(2), -1000);
        c.is("left", w.fault(), 3);
        c.says("A new HOUSE: MINUTE 0, all THINGS UP with their NUMBERS, no FAULT there, no SENTENCE");
        OffThenOn v = Seen.lived();
        v.end(0);
        Check.house(v, Seen.HOUSE);
        c.is("minute, working, up, there", v.now(0) * 1000 + v.now(1) * 100 + v.now(2) * 10 + v.now(3), 330);
        c.is("counts", v.now(4) + v.now(5) + v.now(6) + v.thing(0, 8) + v.thing(1, 8) + v.trouble(0, 6) + v.trouble(0, 7), 0);
        c.is("no sentence", v.said(-1), -1);
        c.is("nothing to undo", v.undo(), -1);
    }

    private static void kindsOfWrong() {
        c.says("FAULTS in a text, the first along it");
        wrongHouse("thing a 0 99;?", 2, 8);
        wrongHouse("thing a 1 99 behind nobody;?", 2, 10);
        wrongHouse("thing a 1 0 behind nobody ?", 3, 19);
        wrongHouse(FIVE + "thing f 1 0;thing ? 0;", 4, FIVE.length() + 12);
        c.says("of one TOKEN the least");
        wrongHouse("thing off 1 0;thing off 1 0;", 1, 6);
        wrongHouse(FIVE + "thing f 1 0;thong g 1 0;", 1, FIVE.length() + 12);
        wrongLog("minute 1;".repeat(40) + "nobody off;", 3, 360);
        wrongLog("minute 1;".repeat(40) + "f off;", 3, 360);
        wrongLog("minute 1;".repeat(40) + "?", 1, 360);
        wrongSentence("up" + " or up".repeat(19) + " or ?", 1, 120);
        wrongSentence("not ".repeat(8) + "a", 1, 32);
        c.says("1 one that can't come (at it)");
        wrongHouse("a", 1, 0);
        wrongHouse("thing 1 0;", 1, 6);
        wrongHouse("thing a;", 1, 7);
        wrongHouse("thing a 1;", 1, 9);
        wrongHouse("thing a 1 0 0;", 1, 12);
        wrongHouse("thing a 1 0 behind 0;", 1, 19);
        wrongHouse("thing a 1 0;;", 1, 12);
        wrongHouse("thing a 1 0;fault f 0 1 1 1;", 1, 20);
        wrongHouse("thing a 1 0;fault f a 1 1;", 1, 25);
        wrongHouse("thing a 1 0;fault f a 1 1 1 1;", 1, 28);
        wrongHouse("thing a 1 0;fault f a 1 1 1;cures f off;", 1, 39);
        wrongHouse("thing a 1 0;fault f a 1 1 1;cures f 1;", 1, 36);
    }

    private static void logNumbers() {
        c.says("LOG: SEED 0 to 999");
        log("a cable 0;a cable 999;a pin 000;");
        wrongLog("a cable 1000;", 1, 8);
        wrongLog("a pin;", 1, 5);
        wrongLog("a on;", 1, 4);
        wrongLog("a off 1;", 1, 6);
        c.says("LOG: N 1 to 60");
        log("minute 1;minute 60;minute 001;");
        wrongLog("minute 0;", 2, 7);
        wrongLog("minute 61;", 2, 7);
        wrongLog("minute 999;", 2, 7);
        wrongLog("minute;", 1, 6);
        c.says("3 a NAME not told, or of another sort, in a LOG");
        wrongLog("nobody off;", 3, 0);
        wrongLog("f off;", 3, 0);
        wrongLog("strikes nobody;", 3, 8);
        wrongLog("strikes b;", 3, 8);
        c.says("1 one that can't come, in a LOG");
        for (String taken : Model.TAKEN) {
            if (!taken.equals("strikes") && !taken.equals("minute")) {
                wrongLog("minute 1;" + taken + " off;", 1, 9);
            }
            if (!taken.equals("off") && !taken.equals("on") && !taken.equals("cable") && !taken.equals("pin")) {
                wrongLog("a " + taken + " 1;", 1, 2);
            }
            wrongLog("strikes " + taken + ";", 1, 8);
        }
        wrongLog("1;", 1, 0);
        wrongLog(";", 1, 0);
        wrongLog("a b;", 1, 2);
        wrongLog("strikes 0;", 1, 8);
    }

    private static void logMost() {
        c.says("LOG: 40 LINES at most; a 41st (at the LINE's first WORD)");
        log("minute 1;".repeat(40));
        log("a off;" + "minute 1;".repeat(39));
        wrongLog("minute 1;".repeat(41), 4, 360);
        wrongLog("minute 1;".repeat(40) + " \nminute", 4, 362);
        wrongLog("minute 1;".repeat(40) + "a off;", 4, 360);
        wrongLog("minute 1;".repeat(40) + "strikes a;", 4, 360);
        wrongLog("a off;".repeat(40) + "b", 4, 240);
        c.says("a LOG of LINES: none is fine");
        log("");
        log("\n");
    }

    private static void logEnd() {
        String line = "minute 1;";
        c.says("A LOG is a text of at most 400 bytes");
        log(line + " ".repeat(391));
        log(" ".repeat(391) + line);
        wrongLog(line + " ".repeat(392), 1, 400);
        wrongLog(" ".repeat(401), 1, 400);
        c.says("1 the end of a LOG: how many bytes there are");
        for (String text : new String[] {"a", "a on", "a on 1", "a off", "strikes", "strikes f", "minute", "minute 5\n "}) {
            wrongLog(text, 1, text.length());
        }
        c.says("TOKENS of a LOG that begin ahead of its 400 are read whole");
        wrongLog(" ".repeat(399) + "minute 1;", 1, 400);
        wrongLog(" ".repeat(399) + "minutes 1;", 3, 399);
        wrongLog(" ".repeat(392) + "minute 61;", 2, 399);
        wrongLog(" ".repeat(392) + "minute 60;", 1, 400);
        wrongLog("minute 1;".repeat(40) + " ".repeat(39) + "minute 1;", 4, 399);
        wrongLog("minute 1;".repeat(40) + " ".repeat(40) + "minute 1;", 1, 400);
    }

    private static void logAnswers() {
        c.says("36: -1000: another lives (the tape stays)");
        for (int no : new int[] {-1, 2, Integer.MIN_VALUE, Integer.MAX_VALUE}) {
            Seen.refused(c, "log " + no, x -> x.log(no), -1000);
        }
        c.says("36: -2 less the place of what is wrong in the text");
        for (int lives = 0; lives < 2; lives++) {
            OffThenOn x = Seen.lived();
            OffThenOn y = Seen.lived();
            x.end(0);
            y.end(0);
            c.is("at its first byte", Check.log(x, "?", lives), -2);
            c.is("farther along", Check.log(x, "minute 1;a off;has", lives), -17);
            c.is("all stays", Seen.all(x).replaceFirst("fault \\d", ""), Seen.all(y).replaceFirst("fault \\d", ""));
            c.is("what can be undone", x.undo(), y.undo());
        }
        c.says("36: it is judged, all staying as it is (lives 0)");
        OffThenOn x = Seen.lived();
        OffThenOn y = Seen.lived();
        x.end(0);
        y.end(0);
        Check.log(x, "minute 1;b off;", 0);
        Check.log(x, "minute 5;a off;strikes g;minute 1;b off;", 0);
        String told = " logged[-0-9 ]*|fault \\d";
        c.is("all but what is told of the log", Seen.all(x).replaceAll(told, ""), Seen.all(y).replaceAll(told, ""));
        c.is("what can be undone", x.undo(), y.undo());
        c.says("36: or lived as far as it is not WRONG (1): the LINE that is WRONG; NONE: none");
        OffThenOn z = Check.with(TWO);
        c.is("the first", Check.log(z, "a on 1;minute 1;", 1), 0);
        c.is("none was lived", z.now(0), 0);
        c.is("the last", Check.log(z, "minute 1;a off;a off;", 1), 2);
        c.is("all ahead of it", z.now(0) * 10 + z.now(2), 12);
        c.is("none", Check.log(z, "a on 1;minute 1;", 1), -1);
        c.is("all", z.now(0) * 10 + z.now(2), 23);
        c.is("an empty one", z.log(1), -1);
        c.says("37: NONE: another what, or ahead of any");
        OffThenOn w = Check.with(TWO);
        Check.log(w, "nobody off;", 0);
        w.log(7);
        for (int i = 0; i < 4; i++) {
            c.is("ahead of any whose text was right", w.logged(i), -1);
        }
        w.log(0);
        c.is("behind one", w.logged(0) * 1000 + w.logged(1) * 100 + w.logged(2) * 10 + w.logged(3), 3);
        for (int no : new int[] {-1, 4, Integer.MIN_VALUE, Integer.MAX_VALUE}) {
            c.is("logged " + no, w.logged(no), -1);
        }
        c.says("37: Of the latest log() whose text was right (and that was not -1000)");
        Check.log(w, "a on 1;", 0);
        Check.log(w, "a on;", 0);
        w.log(-5);
        c.is("the latest right one", w.logged(0), 11);
    }

    private static void logWhys() {
        c.says("37: 0 why it was WRONG");
        String[] logs = {"a off;a off;", "a on 1;", "a pin 1;a on 1;", "a off;a cable 1;", "a off;a pin 1;", "strikes f;strikes f;"};
        int[] whys = {1, 11, 11, 21, 31, 41};
        for (int i = 0; i < logs.length; i++) {
            OffThenOn x = Check.with(TWO);
            Check.log(x, logs[i], 0);
            c.is(logs[i], x.logged(0), whys[i]);
        }
        OffThenOn w = Check.with("thing a 1 2;");
        c.is("too early", Check.log(w, "a off;minute 1;a on 1;", 0), 2);
        c.is("why", w.logged(0), 12);
        c.is("just in time", Check.log(w, "a off;minute 2;a on 1;", 0), -1);
        c.is("why not", w.logged(0), 0);
        c.says("37: 51: fewer MINUTES are left");
        OffThenOn x = Check.with(TWO);
        String nearly = "minute 60;".repeat(16);
        c.is("just as many", Check.log(x, nearly + "minute 40;", 0), -1);
        c.is("the minute then", x.logged(2), 1000);
        c.is("one more", Check.log(x, nearly + "minute 41;", 0), 16);
        c.is("why", x.logged(0), 51);
        c.is("none of them went by", x.logged(2), 960);
        c.is("at the very end", Check.log(x, nearly + "minute 40;minute 1;", 0), 17);
        c.is("the minute then", x.logged(2), 1000);
        c.is("acts are fine at the end", Check.log(x, nearly + "minute 40;a off;strikes f;", 0), -1);
        c.says("37: 0: it was not WRONG, behind one that was");
        c.is("wrong", Check.log(x, "a on 1;", 0), 0);
        c.is("an empty one is not", x.log(0), -1);
        c.is("why", x.logged(0), 0);
        c.says("37: 1 LINES that are not");
        c.is("of an empty log", x.log(0) + x.logged(1), -1);
        Check.log(x, "minute 1;minute 1;a on 1;minute 1;", 0);
        c.is("those ahead of it", x.logged(1), 2);
    }

    private static void sentenceNumbers() {
        c.says("SENTENCE: SIGN NUMBER");
        sentence("lamp = 0", 1);
        sentence("down < 999", 1);
        sentence("number > 000", 1);
        wrongSentence("lamp = 1000", 1, 7);
        wrongSentence("lamp == 1", 1, 6);
        wrongSentence("lamp 1", 1, 5);
        wrongSentence("lamp ; 1", 1, 5);
        wrongSentence("lamp ( 1", 1, 5);
        wrongSentence("lamp ) 1", 1, 5);
        wrongSentence("lamp = a", 1, 7);
        c.says("3 a NAME not told, or of another sort, in a SENTENCE");
        wrongSentence("has nobody", 3, 4);
        wrongSentence("has a", 3, 4);
        wrongSentence("behind nobody", 3, 7);
        wrongSentence("behind f", 3, 7);
        for (String taken : Model.TAKEN) {
            wrongSentence("has " + taken, 1, 4);
            wrongSentence("behind " + taken, 1, 7);
        }
        c.says("1 one that can't come, in a SENTENCE");
        for (String no : new String[] {"and", "or", "thing", "fault", "off", "a", "f", "5", ")", "<", ";"}) {
            wrongSentence(no + " up", 1, 0);
            wrongSentence("up and " + no, 1, 7);
            wrongSentence("not " + no, 1, 4);
            wrongSentence("(" + no, 1, 1);
        }
        wrongSentence("up up", 1, 3);
        wrongSentence("up not up", 1, 3);
        wrongSentence("up (up)", 1, 3);
        wrongSentence("up)", 1, 2);
        wrongSentence("(up;", 1, 3);
    }

    private static void sentenceMost() {
        c.says("20 ONES; a 21st ONE (at its first TOKEN)");
        sentence("up" + " or up".repeat(19), 20);
        sentence("up" + " and up".repeat(19), 20);
        wrongSentence("up" + " or up".repeat(20), 4, 120);
        wrongSentence("up" + " and up".repeat(20), 4, 2 + 19 * 7 + 5);
        wrongSentence("up" + " or up".repeat(19) + " or not", 4, 120);
        wrongSentence("up" + " or up".repeat(19) + " or (", 4, 120);
        wrongSentence("up" + " or up".repeat(19) + " or lamp ?", 4, 120);
        sentence("up" + " or not up".repeat(9) + " or up", 20);
        wrongSentence("up" + " or not up".repeat(10), 4, 2 + 9 * 10 + 8);
        sentence("(up)or(up)or(up)or(up)or(up)or(up)or(up)or(up)or(up)or(up)", 20);
        c.says("8 within one another; a ninth within (at its first TOKEN)");
        sentence("not ".repeat(7) + "up", 8);
        sentence("(((((((up)))))))", 8);
        sentence("not(not(not(not up)))", 8);
        sentence("(((((((up and up)))))))or(((((((up)))))))", 17);
        wrongSentence("not ".repeat(8) + "up", 4, 32);
        wrongSentence("not ".repeat(9) + "up", 4, 32);
        wrongSentence("((((((((up", 4, 8);
        wrongSentence("((((((((((up", 4, 8);
        wrongSentence("(((((((up or not up", 4, 17);
        wrongSentence("not(not(not(not(up))))", 4, 16);
        sentence("(((((((up or up)and not up))))))", 11);
    }

    private static void sentenceEnd() {
        c.says("A SENTENCE is a text of at most 200 bytes");
        sentence("up" + " ".repeat(198), 1);
        sentence(" ".repeat(198) + "up", 1);
        wrongSentence("up" + " ".repeat(199), 1, 200);
        wrongSentence(" ".repeat(199) + "up", 1, 200);
        wrongSentence(" ".repeat(201), 1, 200);
        wrongSentence(" ".repeat(200), 1, 200);
        c.says("1 the end of a SENTENCE: how many bytes there are");
        for (String text : new String[] {"", " ", "not", "(", "(up", "up and", "up or\n", "has", "behind", "lamp", "lamp =", "down <", "number > "}) {
            wrongSentence(text, 1, text.length());
        }
        c.says("TOKENS of a SENTENCE that begin ahead of its 200 are read whole");
        wrongSentence(" ".repeat(199) + "works", 1, 200);
        wrongSentence(" ".repeat(199) + "work", 1, 199);
        wrongSentence(" ".repeat(195) + "has nobody", 3, 199);
        wrongSentence("up" + " ".repeat(197) + "or up", 1, 200);
        wrongSentence("up" + " ".repeat(197) + "up", 1, 199);
        wrongSentence("up" + " ".repeat(198) + "up", 1, 200);
        c.says("38: -1 less the place of what is wrong: it stays");
        for (String text : new String[] {"", "?", "up or", "up and has nobody"}) {
            OffThenOn x = Seen.lived();
            OffThenOn y = Seen.lived();
            x.end(0);
            y.end(0);
            Check.sentence(x, text);
            c.is("all stays", Seen.all(x).replaceFirst("fault \\d", ""), Seen.all(y).replaceFirst("fault \\d", ""));
        }
        c.says("38: how many ONES (each not, bracket and other one)");
        sentence("up", 1);
        sentence("not (up and boots or not works)", 6);
    }

    private static void saidEdges() {
        c.says("39: NONE: there is no SENTENCE");
        OffThenOn x = Check.with(TWO);
        c.is("how many", x.said(-1), -1);
        c.is("the first", x.said(0), -1);
        Check.sentence(x, "up or");
        c.is("a wrong one is none", x.said(-1), -1);
        c.says("39: NONE: none such");
        Check.sentence(x, "up");
        int[] due = {2, 0, 1, -1, -1};
        for (int k = -1; k < 4; k++) {
            c.is("said " + k, x.said(k), due[k + 1]);
        }
        for (int no : new int[] {-2, 32, 63, Integer.MIN_VALUE, Integer.MAX_VALUE}) {
            c.is("said " + no, x.said(no), -1);
        }
        Check.sentence(x, "boots");
        c.is("of none", x.said(-1), 0);
        c.is("of none the first", x.said(0), -1);
        OffThenOn empty = new OffThenOn();
        Check.sentence(empty, "not boots");
        c.is("of no things", empty.said(-1), 0);
        c.is("of no things the first", empty.said(0), -1);
        c.says("'has' FAULT (it is there, and of this THING)");
        Check.sentence(x, "has f");
        c.is("not there", x.said(-1), 0);
        x.strike(0);
        c.is("there, of a alone", x.said(-1) * 10 + x.said(0), 10);
        c.says("'behind' THING (at once, or over others)");
        OffThenOn y = Check.with("thing a 1 0;thing b 1 0 behind a;thing d 1 0 behind b;thing e 1 0;");
        Check.sentence(y, "behind a");
        c.is("two", y.said(-1) * 100 + y.said(0) * 10 + y.said(1), 212);
        Check.sentence(y, "behind d");
        c.is("none", y.said(-1), 0);
        c.says("SIGN: < = >");
        String[] texts = {"number < 2", "number = 2", "number > 2", "number < 0", "number > 3", "down = 0", "down > 0", "lamp < 18", "lamp > 18"};
        int[] many = {2, 1, 1, 0, 0, 4, 0, 0, 0};
        for (int i = 0; i < texts.length; i++) {
            Check.sentence(y, texts[i]);
            c.is(texts[i], y.said(-1), many[i]);
        }
    }
}
