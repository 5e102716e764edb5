/** Promises 1 to 8: a new object, and what is told. */
public final class ToldTest {
    private static final int NONE = Due.NONE, UNKNOWN = Due.UNKNOWN, OUTSIDE = Due.OUTSIDE, NOT = Due.NOT, FULL = Due.FULL;

    public static void main(String[] args) {
        newObject();
        write();
        erase();
        tokensAndBlanks();
        faultsOfWords();
        faultsOfNumbers();
        faultsOfLines();
        gongsBehindTheLinesAhead();
        linesAreDone();
        cloisterSetsAllBack();
        weatherToldLast();
        cloisterRefused();
        gong();
        monk();
        as();
        Due.end("ToldTest");
    }

    private static void newObject() {
        HundredGongs x = new HundredGongs();
        Due.is("gongs at first", x.count(0), 4);
        for (int what = 1; what <= 6; what++) {
            Due.is("count " + what + " at first", x.count(what), 0);
        }
        for (int gong = 0; gong < 4; gong++) {
            Due.is("hears at first", x.gong(gong, 0), NONE);
            Due.is("span at first", x.gong(gong, 1), 0);
            Due.is("can at first", x.gong(gong, 2), 0);
            Due.is("strikes at first", x.gong(gong, 3), 0);
            Due.is("next at first", x.gong(gong, 4), NONE);
            Due.is("kind at first", x.monk(gong, 0), 0);
            Due.is("delay at first", x.monk(gong, 1), 1);
            Due.is("late at first", x.monk(gong, 2), 1);
            Due.is("heard at first", x.monk(gong, 3), 0);
        }
        Due.is("nothing is kept at first", x.back(0), NOT);
        Due.is("nothing is kept at first", x.back(1), NOT);
    }

    private static void write() {
        HundredGongs x = new HundredGongs();
        Due.is("one byte, the lowest", x.write(0x7777777777777766L, 1), 1);
        Due.is("two bytes more, low first", x.write(0x676fL, 2), 3);
        Due.is("it is fog", x.cloister(), 1);
        Due.is("fog is told", x.count(1), 1);
        Due.is("a highest byte of 255", x.write(-1L, 8), 8);
        Due.is("that cannot stand", x.fault(), 0);
        x.erase();
        Due.refused(x, "write of 0", () -> x.write(0, 0), OUTSIDE);
        Due.refused(x, "write of 9", () -> x.write(0, 9), OUTSIDE);
        Due.refused(x, "write of -1", () -> x.write(0, -1), OUTSIDE);
        Due.refused(x, "write of least", () -> x.write(0, Integer.MIN_VALUE), OUTSIDE);
        HundredGongs y = new HundredGongs();
        for (int i = 1; i <= 24; i++) {
            Due.is("write", y.write(0x2020202020202020L, 8), 8 * i);
        }
        Due.is("write up to 199", y.write(0x20202020202020L, 7), 199);
        Due.refused(y, "two above 199", () -> y.write(0, 2), FULL);
        Due.refused(y, "OUTSIDE comes ahead of FULL", () -> y.write(0, 9), OUTSIDE);
        Due.is("the two hundredth", y.write(32, 1), 200);
        Due.refused(y, "one above 200", () -> y.write(0, 1), FULL);
        Due.is("a text of blanks ends too soon", y.fault(), 200);
        Due.is("erase all", y.erase(), 200);
        Due.is("room again", y.write(32, 8), 8);
    }

    private static void erase() {
        HundredGongs x = new HundredGongs();
        Due.is("nothing to erase", x.erase(), 0);
        Due.write(x, "frost;fog");
        Due.is("erase", x.erase(), 9);
        Due.is("bytes then", x.count(6), 0);
        Due.is("erase again", x.erase(), 0);
        Due.is("the erased is not done", x.cloister(), NOT);
        Due.is("weather stays", x.count(1), 0);
    }

    private static void tokensAndBlanks() {
        Due.faultAt("fog", NONE);
        Due.faultAt("  fog  ", NONE);
        Due.faultAt("fog ; clear", NONE);
        Due.faultAt("hears   1  0   9", NONE);
        Due.faultAt("hears1 0 9", NONE);
        Due.faultAt("plain 0 1;fog", NONE);
        Due.faultAt("fog\tclear", 3);
        Due.faultAt("fog\n", 3);
        Due.faultAt("\0fog", 0);
        Due.faultAt("fog,clear", 3);
        Due.faultAt("fog.", 3);
        Due.faultAt("fo g", 0);
        Due.faultAt("fogclear", 0);
        Due.faultAt("fog clear", 4);
        Due.faultAt("hears 10 2", 6);
        Due.faultAt("hears 1 0 3x", 11);
        Due.faultAt("hears 1 -0 3", 8);
        Due.faultAt("plain 0 1 1", 10);
    }

    private static void faultsOfWords() {
        Due.faultAt("", 0);
        Due.faultAt("   ", 3);
        Due.faultAt("Fog", 0);
        Due.faultAt("fOG", 0);
        Due.faultAt("fo", 0);
        Due.faultAt("xog", 0);
        Due.faultAt("fogz", 0);
        Due.faultAt("foga", 0);
        Due.faultAt("fog{", 3);
        Due.faultAt("fog`", 3);
        Due.faultAt("foggy", 0);
        Due.faultAt("frosty", 0);
        Due.faultAt("4", 0);
        Due.faultAt("fog;4", 4);
        Due.faultAt("  monk 1 1", 2);
        Due.faultAt("hears one 1 1", 6);
        Due.faultAt("clear 0", 6);
        Due.faultAt("frost fog", 6);
        Due.faultAt("alone fog", 6);
        for (String word : new String[] {"cloister", "hears", "alone", "plain", "deaf", "sleepy", "doubter"}) {
            Due.faultAt(word, word.length());
            Due.faultAt(word + " ;fog", word.length() + 1);
        }
        for (String word : new String[] {"plain", "deaf", "sleepy", "doubter"}) {
            Due.faultAt(word + " 3", word.length() + 2);
            Due.faultAt(word + " 3 1", NONE);
            Due.faultAt(word + " 3 20", NONE);
            Due.faultAt(word + " 4 1", word.length() + 1);
            Due.faultAt(word + " 3 0", word.length() + 3);
            Due.faultAt(word + " 3 21", word.length() + 3);
        }
    }

    private static void faultsOfNumbers() {
        Due.faultAt("cloister 1", 9);
        Due.faultAt("cloister 2", NONE);
        Due.faultAt("cloister 02", NONE);
        Due.faultAt("cloister 002", 9);
        Due.faultAt("cloister 10", NONE);
        Due.faultAt("cloister 11", 9);
        Due.faultAt("cloister 0", 9);
        Due.faultAt("cloister 100", 9);
        Due.faultAt("cloister 99999999999999999999", 9);
        Due.faultAt("cloister 4 4", 11);
        Due.faultAt("hears 3 0 1", NONE);
        Due.faultAt("hears 4 0 1", 6);
        Due.faultAt("hears 3 4 1", 8);
        Due.faultAt("hears 3 3 1", 8);
        Due.faultAt("hears 3 03 1", 8);
        Due.faultAt("hears 3", 7);
        Due.faultAt("hears 3 ", 8);
        Due.faultAt("hears 3 0", 9);
        Due.faultAt("hears 3 0 ", 10);
        Due.faultAt("hears 3 0 0", 10);
        Due.faultAt("hears 3 0 9", NONE);
        Due.faultAt("hears 3 0 10", 10);
        Due.faultAt("alone 3", NONE);
        Due.faultAt("alone 4", 6);
        Due.faultAt("alone 00", NONE);
        Due.faultAt("alone 000", 6);
    }

    private static void faultsOfLines() {
        Due.faultAt(";", 0);
        Due.faultAt(";fog", 0);
        Due.faultAt("fog;", 4);
        Due.faultAt("fog; ", 5);
        Due.faultAt("fog;;fog", 4);
        Due.faultAt("fog;fog;;", 8);
        String eleven = "fog;fog;fog;fog;fog;fog;fog;fog;fog;fog;fog;";
        Due.faultAt(eleven + "fog", NONE);
        Due.faultAt(eleven + "fog;", 47);
        Due.faultAt(eleven + "fog ;", 48);
        Due.faultAt(eleven + "fog;fog", 47);
        Due.faultAt(eleven + "fog x", 48);
        Due.faultAt(eleven + "x;", 44);
    }

    private static void gongsBehindTheLinesAhead() {
        Due.faultAt("cloister 2;alone 1", NONE);
        Due.faultAt("cloister 2;alone 2", 17);
        Due.faultAt("cloister 10;alone 9", NONE);
        Due.faultAt("alone 9;cloister 10", 6);
        Due.faultAt("cloister 10;cloister 3;alone 3", 29);
        HundredGongs x = Due.told("cloister 10");
        Due.write(x, "hears 9 8 1;cloister 9;alone 8");
        Due.is("fault of ten gongs", x.fault(), NONE);
        Due.is("fault changes nothing", x.count(0), 10);
        x.erase();
        Due.write(x, "alone 10");
        Due.is("no tenth", x.fault(), 6);
        HundredGongs y = new HundredGongs();
        Due.write(y, "cloister 2");
        Due.is("fault of two gongs", y.fault(), NONE);
        y.erase();
        Due.write(y, "alone 3");
        Due.is("an erased line is not ahead", y.fault(), NONE);
    }

    private static void linesAreDone() {
        HundredGongs x = Due.told("hears 0 1 1;hears 0 2 2;plain 0 3;deaf 0 20;sleepy 1 4;doubter 2 5;hears 3 0 9;alone 3");
        Due.is("bytes then", x.count(6), 0);
        Due.is("the later of two", x.gong(0, 0), 2);
        Due.is("its span", x.gong(0, 1), 2);
        Due.is("deaf", x.monk(0, 0), 1);
        Due.is("its delay", x.monk(0, 1), 20);
        Due.is("sleepy", x.monk(1, 0), 2);
        Due.is("its delay", x.monk(1, 1), 4);
        Due.is("doubter", x.monk(2, 0), 3);
        Due.is("its delay", x.monk(2, 1), 5);
        Due.is("alone again", x.gong(3, 0), NONE);
        Due.is("no span", x.gong(3, 1), 0);
        Due.tell(x, "plain 2 07");
        Due.is("the text before still holds", x.gong(0, 0), 2);
        Due.is("plain", x.monk(2, 0), 0);
        Due.is("its delay", x.monk(2, 1), 7);
        Due.tell(x, "hears 0 1 1;frost;cloister 3;hears 2 0 3");
        Due.is("three gongs", x.count(0), 3);
        Due.is("no fourth", x.gong(3, 0), UNKNOWN);
        Due.is("all else as at first", x.gong(0, 0), NONE);
        Due.is("kinds as at first", x.monk(0, 0), 0);
        Due.is("delays as at first", x.monk(0, 1), 1);
        Due.is("weather as at first", x.count(1), 0);
        Due.is("a line behind it holds", x.gong(2, 0), 0);
        Due.tell(x, "cloister 10");
        Due.is("none is left over", x.gong(2, 0), NONE);
        Due.is("nor its span", x.gong(2, 1), 0);
    }

    private static void cloisterSetsAllBack() {
        HundredGongs x = Due.told("hears 1 0 1;doubter 1 5;hears 2 0 1");
        x.strike(0);
        x.go(1);
        x.strike(0);
        x.strike(0);
        x.seen(1, 1);
        x.keep(0);
        x.keep(1);
        Due.is("a doubter has heard", x.monk(1, 3), 1);
        Due.is("gongs are to strike", x.count(3), 6);
        Due.tell(x, "clear");
        Due.is("minute 0", x.count(2), 0);
        Due.is("all is quiet", x.count(3), 0);
        Due.is("no next", x.gong(1, 4), NONE);
        Due.is("no strikes", x.count(4), 0);
        Due.is("no strikes of one", x.gong(0, 3), 0);
        Due.is("doubters have heard nothing", x.monk(1, 3), 0);
        Due.is("nothing is seen", x.count(5), 0);
        Due.is("nothing is kept", x.back(0), NOT);
        Due.is("nothing is kept", x.back(1), NOT);
        Due.is("quiet goes by", x.go(99), 0);
        Due.is("who hears whom holds", x.gong(1, 0), 0);
    }

    private static void weatherToldLast() {
        HundredGongs x = Due.told("frost;plain 0 1;fog");
        Due.is("the last in a text", x.count(1), 1);
        Due.tell(x, "plain 0 1");
        Due.is("of a text before", x.count(1), 1);
        x.turn(2);
        Due.tell(x, "plain 0 1");
        Due.is("told, not turned", x.count(1), 1);
        Due.tell(x, "frost;cloister 4");
        Due.is("clear behind cloister", x.count(1), 0);
        Due.tell(x, "cloister 4;frost");
        Due.is("told behind cloister", x.count(1), 2);
        x.keep(0);
        x.turn(1);
        x.back(0);
        x.turn(0);
        Due.tell(x, "alone 0");
        Due.is("what is kept is not told", x.count(1), 2);
    }

    private static void cloisterRefused() {
        HundredGongs x = Due.told("frost;hears 1 0 2");
        x.strike(0);
        x.go(1);
        x.strike(0);
        x.seen(0, 1);
        x.keep(1);
        Due.refused(x, "an empty text", x::cloister, NOT);
        Due.write(x, "cloister 2;fog;alone 2");
        Due.refused(x, "a fault in the last line", x::cloister, NOT);
        Due.is("the text stays", x.erase(), 22);
        Due.is("what is kept stays", x.back(1), 1);
        Due.tell(x, "alone 0");
        Due.is("weather of a refused text is not told", x.count(1), 2);
    }

    private static void gong() {
        HundredGongs x = Due.told("hears 0 3 4;hears 1 0 5;hears 2 0 9;deaf 2 1;plain 1 3");
        Due.is("hears", x.gong(0, 0), 3);
        Due.is("span", x.gong(0, 1), 4);
        Due.is("can", x.gong(0, 2), 1);
        Due.is("can at 5", x.gong(1, 2), 1);
        Due.is("the deaf cannot", x.gong(2, 2), 0);
        Due.is("he hears all the same", x.gong(2, 0), 0);
        Due.is("span 9", x.gong(2, 1), 9);
        x.turn(1);
        Due.is("4 in fog", x.gong(0, 2), 1);
        Due.is("5 in fog", x.gong(1, 2), 0);
        x.turn(2);
        Due.is("5 in frost", x.gong(1, 2), 1);
        x.turn(0);
        x.strike(0);
        x.go(1);
        x.strike(0);
        Due.is("strikes", x.gong(0, 3), 2);
        Due.is("the nearer of two", x.gong(1, 4), 2);
        x.go(2);
        Due.is("struck", x.gong(1, 3), 1);
        Due.is("the other one", x.gong(1, 4), 1);
        x.go(1);
        Due.is("none to come", x.gong(1, 4), NONE);
        Due.refused(x, "gong 4", () -> x.gong(4, 0), UNKNOWN);
        Due.refused(x, "gong -1", () -> x.gong(-1, 5), UNKNOWN);
        Due.is("what 5", x.gong(0, 5), OUTSIDE);
        Due.is("what -1", x.gong(0, -1), OUTSIDE);
        Due.is("largest", x.gong(Integer.MAX_VALUE, 0), UNKNOWN);
        HundredGongs y = Due.told("cloister 10;hears 9 0 1;hears 0 9 1;sleepy 9 20;frost");
        y.strike(0);
        Due.is("the farthest next", y.gong(9, 4), 41);
    }

    private static void monk() {
        HundredGongs x = Due.told("plain 0 20;deaf 1 3;sleepy 2 20;doubter 3 4;hears 3 0 1;hears 2 0 1");
        int[] kind = {0, 1, 2, 3};
        int[] delay = {20, 3, 20, 4};
        int[] late = {20, 3, 40, 4};
        for (int weather = 0; weather <= 2; weather++) {
            x.turn(weather);
            for (int gong = 0; gong < 4; gong++) {
                Due.is("kind", x.monk(gong, 0), kind[gong]);
                Due.is("delay", x.monk(gong, 1), delay[gong]);
                Due.is("late", x.monk(gong, 2), late[gong] + (weather == 2 ? 1 : 0));
            }
        }
        for (int i = 1; i <= 4; i++) {
            x.strike(0);
            Due.is("by 2 left over", x.monk(3, 3), i % 2);
            Due.is("of no other", x.monk(2, 3), 0);
        }
        Due.refused(x, "monk 4", () -> x.monk(4, 9), UNKNOWN);
        Due.is("monk -1", x.monk(-1, 0), UNKNOWN);
        Due.is("what 4", x.monk(0, 4), OUTSIDE);
        Due.is("what -1", x.monk(0, -1), OUTSIDE);
    }

    private static void as() {
        HundredGongs x = Due.told("plain 0 2;deaf 1 3;sleepy 2 4;doubter 3 5");
        int[][] due = {
            {2, 2, NOT, NOT, NOT},
            {3, NOT, 3, NOT, NOT},
            {8, 8, NOT, 8, NOT},
            {5, 5, NOT, NOT, 5},
        };
        for (int weather = 0; weather <= 2; weather++) {
            x.turn(weather);
            for (int gong = 0; gong < 4; gong++) {
                for (int kind = 0; kind <= 4; kind++) {
                    int want = due[gong][kind];
                    Due.is("as " + gong + " " + kind, x.as(gong, kind), want == NOT ? NOT : want + (weather == 2 ? 1 : 0));
                }
            }
        }
        Due.refused(x, "as of 4", () -> x.as(4, 7), UNKNOWN);
        Due.is("as of -1", x.as(-1, 0), UNKNOWN);
        Due.refused(x, "as 5", () -> x.as(0, 5), OUTSIDE);
        Due.is("as -1", x.as(0, -1), OUTSIDE);
    }
}
