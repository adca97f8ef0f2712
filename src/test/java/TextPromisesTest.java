/** Promises 1 to 9, 36 to 39 and 42: the tape, the texts and what is wrong in them. */
public final class TextPromisesTest {
    private static final String HOUSE = "thing wall 3 2;thing box 4 1 behind wall;fault hung box 30 6 3;cures hung off 12;";

    private static final Check c = new Check();

    public static void main(String[] args) {
        newObject();
        feedAndEnd();
        tokens();
        houseLines();
        houseFaults();
        houseCounts();
        tooLong();
        thingAndTrouble();
        curesAndNow();
        logFaults();
        logJudged();
        sentenceFaults();
        sentenceSaid();
        counts();
        c.close();
    }

    private static void wrongHouse(String text, int kind, int place) {
        OffThenOn x = Check.with(HOUSE);
        c.is("house " + text, Check.house(x, text), -1 - place);
        c.is("fault of " + text, x.fault(), kind);
        c.is("things stay", x.count(0), 2);
        c.is("tape is empty", x.count(3), 0);
    }

    private static void wrongLog(String text, int kind, int place) {
        OffThenOn x = Check.with(HOUSE);
        c.is("log " + text, Check.log(x, text, 1), -2 - place);
        c.is("fault of " + text, x.fault(), kind);
        c.is("logged stays", x.logged(0), -1);
        c.is("nothing was lived", x.undo(), -1);
        c.is("tape is empty", x.count(3), 0);
    }

    private static void wrongSentence(String text, int kind, int place) {
        OffThenOn x = Check.with(HOUSE);
        Check.sentence(x, "number=1");
        c.is("sentence " + text, Check.sentence(x, text), -1 - place);
        c.is("fault of " + text, x.fault(), kind);
        c.is("sentence stays", x.said(0), 1);
        c.is("tape is empty", x.count(3), 0);
    }

    private static void newObject() {
        OffThenOn x = new OffThenOn();
        for (int i = 0; i < 4; i++) {
            c.is("count " + i, x.count(i), 0);
        }
        c.is("fault ahead of any", x.fault(), 0);
        c.is("minute", x.now(0), 0);
        c.is("no sentence", x.said(-1), -1);
        c.is("a minute of an empty house", x.minutes(2), 2);
        c.is("minute then", x.now(0), 2);
    }

    private static void feedAndEnd() {
        OffThenOn x = new OffThenOn();
        c.is("feed", x.feed(0x01020384, 0, 0, 0, 0x7fffffff), 20);
        c.is("end -1", x.end(-1), false);
        c.is("end 21", x.end(21), false);
        c.is("end stays", x.count(3), 20);
        c.is("end 20", x.end(20), true);
        c.is("end 0", x.end(0), true);
        c.is("end 1 of none", x.end(1), false);
        for (int i = 1; i <= 47; i++) {
            c.is("feed " + i, x.feed(i, i, i, i, i), 20 * i);
        }
        c.is("feed beyond 940", x.feed(1, 1, 1, 1, 1), -1);
        c.is("none came", x.count(3), 940);
        c.is("end 921", x.end(921), true);
        c.is("feed to 941", x.feed(1, 1, 1, 1, 1), -1);
        c.is("end 920", x.end(920), true);
        c.is("feed to 940", x.feed(1, 1, 1, 1, 1), 940);
        // The highest byte comes first: (THING 0, LAMP 3), of a fault that shows 3.
        OffThenOn y = Check.with("thing a 1 0;fault f a 0 1 3;");
        y.feed(0x00030000, 0, 0, 0, 0);
        y.end(2);
        c.is("bytes in order", y.what(), 1);
    }

    private static void tokens() {
        c.is("blanks", Check.house(new OffThenOn(), " \nthing\na  3 2\n;\n thing b 1 0;"), 2);
        c.is("none where none is needed", Check.house(new OffThenOn(), "thing abcdefg 030 020;"), 1);
        wrongHouse("thing abcdefgh 1 1;", 1, 6);
        wrongHouse("thing a1 1 1;", 1, 6);
        wrongHouse("thing a 1b 1;", 1, 8);
        wrongHouse("thing a 0001 1;", 1, 8);
        wrongHouse("thing A 1 1;", 1, 6);
        wrongHouse("\tthing a 1 1;", 1, 0);
        wrongHouse("thing a 1 1.", 1, 11);
        wrongHouse("thing a 1 1;\200", 1, 12);
        wrongHouse("thing3 1 1;", 1, 0);
    }

    private static void houseLines() {
        OffThenOn x = new OffThenOn();
        c.is("no lines", x.house(), 0);
        c.is("four lines", Check.house(x, HOUSE), 4);
        c.is("right", x.fault(), 0);
        c.is("no lines again", x.house(), 0);
        c.is("empty house", x.count(0), 0);
        Check.house(x, "?");
        c.is("wrong", x.fault(), 1);
        x.house();
        c.is("right again", x.fault(), 0);
        OffThenOn y = Check.with(HOUSE);
        y.off(0);
        y.minutes(3);
        y.strike(0);
        Check.sentence(y, "up");
        c.is("a new house", Check.house(y, HOUSE), 4);
        c.is("minute 0", y.now(0), 0);
        c.is("all work", y.now(1), 3);
        c.is("no fault there", y.now(3), 0);
        c.is("never struck", y.trouble(0, 6), 0);
        c.is("never down", y.thing(0, 8), 0);
        c.is("no sentence", y.said(-1), -1);
        c.is("nothing to undo", y.undo(), -1);
    }

    private static void houseFaults() {
        wrongHouse("thing", 1, 5);
        wrongHouse("thing  ", 1, 7);
        wrongHouse("thing a 1 1", 1, 11);
        wrongHouse("thing a 1 1 thing b 1 1;", 1, 12);
        wrongHouse("other a 1 1;", 1, 0);
        wrongHouse("off a 1 1;", 1, 0);
        wrongHouse(";", 1, 0);
        wrongHouse("thing a 1 1;;", 1, 12);
        for (String taken : Model.TAKEN) {
            wrongHouse("thing " + taken + " 1 1;", 1, 6);
            wrongHouse("thing a 1 1 behind " + taken + ";", 1, 19);
        }
        wrongHouse("thing a 0 1;", 2, 8);
        wrongHouse("thing a 31 1;", 2, 8);
        wrongHouse("thing a 30 21;", 2, 11);
        wrongHouse("thing a b 1;", 1, 8);
        wrongHouse("thing a 1 1;thing a 1 1;", 3, 18);
        wrongHouse("thing a 1 1 behind a;", 3, 19);
        wrongHouse("thing a 1 1 behind b;thing b 1 1;", 3, 19);
        wrongHouse("thing a 1 1;fault a a 1 1 1;", 3, 18);
        wrongHouse("thing a 1 1;fault b c 1 1 1;", 3, 20);
        wrongHouse("thing a 1 1;fault b b 1 1 1;", 3, 20);
        wrongHouse("thing a 1 1;fault b a 1 1 1;thing b 1 1;", 3, 34);
        wrongHouse("thing a 1 1;fault b a 1 1 1;thing c 1 1 behind b;", 3, 47);
        wrongHouse("thing a 1 1;fault b a 201 1 1;", 2, 22);
        wrongHouse("thing a 1 1;fault b a 200 0 1;", 2, 26);
        wrongHouse("thing a 1 1;fault b a 200 100 1;", 2, 26);
        wrongHouse("thing a 1 1;fault b a 0 99 0;", 2, 27);
        wrongHouse("thing a 1 1;fault b a 0 99 16;", 2, 27);
        wrongHouse("thing a 1 1;fault b a 0 99 15;cures c off 1;", 3, 36);
        wrongHouse("thing a 1 1;fault b a 0 99 15;cures a off 1;", 3, 36);
        wrongHouse("thing a 1 1;fault b a 0 99 15;cures off off 1;", 1, 36);
        wrongHouse("thing a 1 1;fault b a 0 99 15;cures b on 1;", 1, 38);
        wrongHouse("thing a 1 1;fault b a 0 99 15;cures b b 1;", 1, 38);
        wrongHouse("thing a 1 1;fault b a 0 99 15;cures b off 0;", 2, 42);
        wrongHouse("thing a 1 1;fault b a 0 99 15;cures b off 13;", 2, 42);
        wrongHouse("thing a 1 1;fault b a 0 99 15;cures b pin 12;cures b pin 12;", 3, 53);
        wrongHouse("thing a 1 1;fault b a 0 99 15;cures b pin 12;cures b off 12 0;", 1, 60);
    }

    private static void houseCounts() {
        String six = "thing a 1 0;thing b 1 0;thing c 1 0;thing d 1 0;thing e 1 0;thing f 1 0;";
        StringBuilder faults = new StringBuilder(six);
        for (int i = 0; i < 8; i++) {
            faults.append("fault x").append((char) ('a' + i)).append(" a 0 1 1;");
        }
        StringBuilder cures = new StringBuilder(faults);
        for (int i = 0; i < 16; i++) {
            cures.append("cures x").append((char) ('a' + i / 2)).append(i % 2 == 0 ? " off 1;" : " pin 1;");
        }
        OffThenOn x = new OffThenOn();
        c.is("the most lines", Check.house(x, cures.toString()), 30);
        c.is("6 things", x.count(0), 6);
        c.is("8 faults", x.count(1), 8);
        c.is("16 cures", x.count(2), 16);
        wrongHouse(six + "thing a 99;", 4, six.length());
        wrongHouse(faults + "fault", 4, faults.length());
        wrongHouse(cures + " cures xa off 1;", 4, cures.length() + 1);
        wrongHouse(cures + "other", 1, cures.length());
    }

    private static void tooLong() {
        String line = "thing a 1 0;";
        OffThenOn x = new OffThenOn();
        c.is("900 bytes", Check.house(x, line + " ".repeat(888)), 1);
        wrongHouse(line + " ".repeat(889), 1, 900);
        wrongHouse(line + " ".repeat(928), 1, 900);
        wrongHouse(line + " ".repeat(886) + "thing b 1 0;", 1, 900);
        // What begins ahead of the end is read whole.
        wrongHouse(line + " ".repeat(887) + "?", 1, 899);
        wrongHouse(line + " ".repeat(887) + "thingthing", 1, 899);
        wrongHouse(line + " ".repeat(880) + "thing a 1 0;", 3, 898);
        wrongHouse(line + " ".repeat(880) + "thing abcdefgh 1 0;", 1, 898);
        wrongHouse(line + " ".repeat(879) + "thing b 31 0;", 2, 899);
        wrongHouse(line + " ".repeat(879) + "thing b 30 0;", 1, 900);
        wrongHouse(line + " ".repeat(888) + "?", 1, 900);
        wrongHouse(line + " ".repeat(882) + "thing a 1 0;", 1, 900);
        wrongLog("minute 1;" + "\n".repeat(392), 1, 400);
        wrongLog("minute 1;" + " ".repeat(383) + "minute 61;", 2, 399);
        wrongLog("minute 1;" + " ".repeat(383) + "minute 60;", 1, 400);
        wrongSentence("works" + " ".repeat(196), 1, 200);
        wrongSentence("works" + " ".repeat(194) + "and up", 1, 200);
        wrongSentence("works" + " ".repeat(190) + "and noo", 1, 199);
        OffThenOn y = Check.with(HOUSE);
        c.is("log of 400", Check.log(y, "minute 1;" + " ".repeat(391), 1), -1);
        c.is("sentence of 200", Check.sentence(y, "works" + " ".repeat(195)), 1);
    }

    private static void thingAndTrouble() {
        OffThenOn x = Check.with(HOUSE);
        int[] box = {4, 1, 0, 2, 0, 1, 18, 1, 0};
        for (int i = 0; i < 9; i++) {
            c.is("box " + i, x.thing(1, i), box[i]);
        }
        int[] hung = {1, 30, 6, 3, 0, 0, 0, 0};
        for (int i = 0; i < 8; i++) {
            c.is("hung " + i, x.trouble(0, i), hung[i]);
        }
        c.is("wall", x.thing(0, 2), -1);
        for (int[] no : new int[][] {{-1, 0}, {2, 0}, {0, -1}, {0, 9}, {Integer.MAX_VALUE, 0}}) {
            c.is("thing", Check.of(() -> x.thing(no[0], no[1])), Check.THROWS);
        }
        for (int[] no : new int[][] {{-1, 0}, {1, 0}, {0, -1}, {0, 8}, {Integer.MIN_VALUE, 0}}) {
            c.is("trouble", Check.of(() -> x.trouble(no[0], no[1])), Check.THROWS);
        }
    }

    private static void curesAndNow() {
        OffThenOn x = Check.with(HOUSE);
        c.is("off", x.cures(0, 0), 12);
        c.is("none told", x.cures(0, 1), 0);
        c.is("no deed", x.cures(0, 3), -1);
        c.is("no deed", x.cures(0, -1), -1);
        c.is("no fault", x.cures(1, 0), -1);
        c.is("no fault", x.cures(-1, 0), -1);
        int[] now = {0, 3, 3, 0, 0, 0, 0};
        for (int i = 0; i < 7; i++) {
            c.is("now " + i, x.now(i), now[i]);
        }
        c.is("now -1", x.now(-1), -1);
        c.is("now 7", x.now(7), -1);
    }

    private static void logFaults() {
        wrongLog("wall", 1, 4);
        wrongLog("wall off", 1, 8);
        wrongLog("wall off 1;", 1, 9);
        wrongLog("wall on;", 1, 7);
        wrongLog("wall minute 1;", 1, 5);
        wrongLog("off wall;", 1, 0);
        wrongLog("thing wall;", 1, 0);
        wrongLog("7;", 1, 0);
        wrongLog("tv off;", 3, 0);
        wrongLog("hung off;", 3, 0);
        wrongLog("strikes wall;", 3, 8);
        wrongLog("strikes tv;", 3, 8);
        wrongLog("strikes off;", 1, 8);
        wrongLog("strikes 1;", 1, 8);
        wrongLog("minute 0;", 2, 7);
        wrongLog("minute 61;", 2, 7);
        wrongLog("minute hung;", 1, 7);
        wrongLog("minute 1;wall pin 1000;", 1, 18);
        String forty = "minute 1;".repeat(40);
        OffThenOn x = Check.with(HOUSE);
        c.is("40 lines", Check.log(x, forty, 1), -1);
        c.is("40 minutes", x.now(0), 40);
        wrongLog(forty + "minute", 4, 360);
        wrongLog(forty + " wall?", 4, 361);
        wrongLog(forty + "strikes nobody;", 4, 360);
        wrongLog(forty + "nobody off;", 3, 360);
        wrongLog(forty + "cable;", 1, 360);
    }

    private static void logJudged() {
        OffThenOn x = Check.with(HOUSE);
        Check.feed(x, "wall off;");
        c.is("another lives", x.log(2), -1000);
        c.is("another lives", x.log(-1), -1000);
        c.is("the tape stays", x.count(3), 9);
        c.is("judged", x.log(0), -1);
        c.is("the tape is empty", x.count(3), 0);
        int[] judged = {0, 1, 0, 0};
        for (int i = 0; i < 4; i++) {
            c.is("logged " + i, x.logged(i), judged[i]);
        }
        c.is("logged 4", x.logged(4), -1);
        c.is("logged -1", x.logged(-1), -1);
        c.is("all stays", x.now(1), 3);
        c.is("nothing to undo", x.undo(), -1);
        c.is("lived", Check.log(x, "wall off;minute 1;wall on 3;minute 5;", 1), 2);
        int[] lived = {12, 2, 1, 0};
        for (int i = 0; i < 4; i++) {
            c.is("lived " + i, x.logged(i), lived[i]);
        }
        c.is("minute", x.now(0), 1);
        c.is("wall is off", x.thing(0, 3), 0);
        c.is("right though wrong", x.fault(), 0);
        c.is("seed 0", Check.log(x, "box cable 0;box off;box off;", 0), 2);
        c.is("seed 999", Check.log(x, "box cable 999;", 0), -1);
        c.is("those that work then", Check.log(x, "minute 1;wall on 1;minute 3;box pin 1;minute 4;", 0), -1);
        c.is("bits", x.logged(3), 3);
        c.is("minute", x.logged(2), 9);
        Check.log(x, "minute 1;wall on 1;wall on 1;", 0);
        c.is("none works", x.logged(3), 0);
        Check.log(x, "wall on 3;", 0);
        Check.log(x, "wall of;", 0);
        c.is("fault", x.fault(), 1);
        c.is("logged stays", x.logged(0), 12);
        Check.feed(x, "wall off;");
        x.log(9);
        c.is("-1000 leaves the fault", x.fault(), 1);
        c.is("off again", x.log(0), 0);
        c.is("why", x.logged(0), 1);
        whys();
    }

    private static void whys() {
        OffThenOn x = Check.with(HOUSE);
        String[] logs = {"wall off;wall off;", "wall on 1;", "wall off;wall on 1;", "wall off;wall cable 1;", "wall off;wall pin 1;",
            "strikes hung;strikes hung;", "minute 60;".repeat(16) + "minute 40;minute 1;"};
        int[] whys = {1, 11, 12, 21, 31, 41, 51};
        int[] lines = {1, 0, 1, 1, 1, 1, 17};
        for (int i = 0; i < logs.length; i++) {
            c.is(logs[i], Check.log(x, logs[i], 0), lines[i]);
            c.is("why " + logs[i], x.logged(0), whys[i]);
            c.is("lines " + logs[i], x.logged(1), lines[i]);
        }
        c.is("minute then", x.logged(2), 1000);
        c.is("too many minutes", Check.log(x, "minute 60;".repeat(16) + "minute 41;", 1), 16);
        c.is("none of them went", x.now(0), 960);
        c.is("undone", x.undo(), 0);
        c.is("minute", x.now(0), 0);
        c.is("an empty log", x.log(1), -1);
        c.is("an empty log was lived", x.undo(), 0);
    }

    private static void sentenceFaults() {
        wrongSentence("", 1, 0);
        wrongSentence("works works", 1, 6);
        wrongSentence("works;", 1, 5);
        wrongSentence("works and", 1, 9);
        wrongSentence("or works", 1, 0);
        wrongSentence("(works", 1, 6);
        wrongSentence("(works))", 1, 7);
        wrongSentence("()", 1, 1);
        wrongSentence("not", 1, 3);
        wrongSentence("lamp 3", 1, 5);
        wrongSentence("lamp (3", 1, 5);
        wrongSentence("lamp =", 1, 6);
        wrongSentence("lamp = 1000", 1, 7);
        wrongSentence("lamp = up", 1, 7);
        wrongSentence("has wall", 3, 4);
        wrongSentence("has nobody", 3, 4);
        wrongSentence("has off", 1, 4);
        wrongSentence("has 3", 1, 4);
        wrongSentence("behind hung", 3, 7);
        wrongSentence("behind tv", 3, 7);
        wrongSentence("wall", 1, 0);
        wrongSentence("up" + " or up".repeat(20), 4, 2 + 19 * 6 + 4);
        wrongSentence("up" + " or up".repeat(19) + " and ?", 1, 2 + 19 * 6 + 5);
        wrongSentence("up" + " or up".repeat(19) + " and has nobody", 4, 2 + 19 * 6 + 5);
        wrongSentence("not ".repeat(8) + "up", 4, 32);
        wrongSentence("(((((((((up)))))))))", 4, 8);
        wrongSentence("((((((((up))))))))", 4, 8);
        wrongSentence("((((((((?", 1, 8);
        OffThenOn x = Check.with(HOUSE);
        c.is("20 ones", Check.sentence(x, "up" + " or up".repeat(19)), 20);
        c.is("8 within", Check.sentence(x, "not ".repeat(7) + "up"), 8);
        c.is("8 within brackets", Check.sentence(x, "(((((((up)))))))and((((up))))"), 13);
    }

    private static void sentenceSaid() {
        OffThenOn x = Check.with("thing a 2 1;thing b 1 0 behind a;thing c 1 0 behind b;thing d 1 0;"
                + "fault f b 0 1 3;fault g d 0 1 9;");
        x.off(2);
        x.minutes(3);
        x.on(2, 1);
        x.strike(0);
        said(x, "works", 1, 0, 3);
        said(x, "up", 1, 0, 1, 3);
        said(x, "boots", 1, 2);
        said(x, "not boots", 2, 0, 1, 3);
        said(x, "has f", 1, 1);
        said(x, "has g", 1);
        said(x, "behind a", 1, 1, 2);
        said(x, "behind b", 1, 2);
        said(x, "behind c", 1);
        said(x, "lamp = 3", 1, 1);
        said(x, "lamp > 17", 1, 0, 3);
        said(x, "lamp<18", 1, 1, 2);
        said(x, "down>2", 1, 2);
        said(x, "down = 0", 1, 0, 1, 3);
        said(x, "number < 2", 1, 0, 1);
        said(x, "number > 1", 1, 2, 3);
        said(x, "number > 0 and number < 003", 2, 1, 2);
        said(x, "lamp > 0", 1, 0, 1, 2, 3);
        said(x, "boots or has f and works", 3, 2);
        said(x, "(boots or has f) and not works", 5, 1, 2);
        said(x, "not works and up", 3, 1);
        said(x, "not (works and up)", 4, 1, 2);
        said(x, "number = 999", 1);
        x.minutes(1);
        Check.sentence(x, "up");
        c.is("by what is so now", x.said(-1), 4);
        c.is("2nd", x.said(2), 2);
        c.is("-2nd", x.said(-2), -1);
        c.is("4th", x.said(4), -1);
        OffThenOn y = new OffThenOn();
        c.is("of no things", Check.sentence(y, "not up"), 2);
        c.is("none", y.said(-1), 0);
        c.is("none", y.said(0), -1);
    }

    private static void said(OffThenOn x, String text, int ones, int... things) {
        c.is(text, Check.sentence(x, text), ones);
        c.is("fault of " + text, x.fault(), 0);
        c.is("said of " + text, x.said(-1), things.length);
        for (int i = 0; i < things.length; i++) {
            c.is(text + " " + i, x.said(i), things[i]);
        }
        c.is(text + " no more", x.said(things.length), -1);
    }

    private static void counts() {
        OffThenOn x = Check.with(HOUSE);
        x.feed(1, 2, 3, 4, 5);
        int[] counts = {2, 1, 1, 20};
        for (int i = 0; i < 4; i++) {
            c.is("count " + i, x.count(i), counts[i]);
        }
        c.is("count -1", x.count(-1), -1);
        c.is("count 4", x.count(4), -1);
    }
}
