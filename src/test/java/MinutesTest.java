/** Promises 9 to 13: strikes by hand, minutes, weather that turns, a morning kept. */
public final class MinutesTest {
    private static final int NONE = Due.NONE, UNKNOWN = Due.UNKNOWN, OUTSIDE = Due.OUTSIDE, NOT = Due.NOT, FULL = Due.FULL;

    public static void main(String[] args) {
        strike();
        doubters();
        go();
        eachOnce();
        farMinutes();
        turn();
        keepAndBack();
        keepADoubter();
        keepAndBackRefused();
        aboveTheLastMinute();
        Due.end("MinutesTest");
    }

    private static void strike() {
        HundredGongs x = Due.told("cloister 6;hears 1 0 1;hears 2 0 5;hears 3 0 1;deaf 3 1;hears 4 1 1;hears 5 0 9;sleepy 5 2");
        Due.is("those that hear it at once, no others", x.strike(0), 1 << 1 | 1 << 2 | 1 << 5);
        Due.is("to strike", x.count(3), 1 << 1 | 1 << 2 | 1 << 5);
        Due.is("it counts", x.count(4), 1);
        Due.is("no minute goes by", x.count(2), 0);
        Due.is("again: the same ones will by it, too", x.strike(0), 1 << 1 | 1 << 2 | 1 << 5);
        Due.is("it counts again", x.gong(0, 3), 2);
        Due.is("heard by none", x.strike(4), 0);
        Due.is("the deaf strike by hand", x.strike(3), 0);
        Due.is("so it counts", x.gong(3, 3), 1);
        x.turn(1);
        Due.is("in fog", x.strike(0), 1 << 1);
        Due.refused(x, "no such", () -> x.strike(6), UNKNOWN);
        Due.refused(x, "no such", () -> x.strike(-1), UNKNOWN);
    }

    private static void doubters() {
        HundredGongs x = Due.told("hears 1 0 5;doubter 1 3;hears 2 1 1;doubter 2 1;hears 3 2 1");
        Due.is("the first is doubted", x.strike(0), 0);
        Due.is("heard", x.monk(1, 3), 1);
        x.turn(1);
        Due.is("not heard in fog", x.strike(0), 0);
        Due.is("so it does not count", x.monk(1, 3), 1);
        x.turn(0);
        Due.is("the second is not doubted", x.strike(0), 2);
        Due.is("the third is", x.strike(0), 0);
        Due.is("the fourth is not", x.strike(0), 2);
        Due.is("in three minutes", x.go(2), 0);
        Due.is("it strikes once for both", x.go(1), 1);
        Due.is("the next doubter heard one", x.monk(2, 3), 1);
        Due.is("a strike of his own by hand", x.strike(1), 4);
        Due.is("the other doubter's", x.monk(2, 3), 0);
        Due.is("then both go on", x.go(9), 2);
        Due.is("at the last", x.gong(3, 3), 1);
    }

    private static void go() {
        HundredGongs x = Due.told("hears 1 0 1;hears 2 1 1;hears 3 2 1;plain 1 3;sleepy 2 2;plain 3 1");
        x.strike(0);
        Due.is("too soon", x.go(2), 0);
        Due.is("minute", x.count(2), 2);
        Due.is("the first", x.go(1), 1);
        Due.is("one", x.gong(1, 3), 1);
        Due.is("four later, the next", x.gong(2, 4), 4);
        Due.is("the others", x.go(5), 2);
        Due.is("in all", x.count(4), 4);
        Due.is("quiet", x.count(3), 0);
        Due.is("99", x.go(99), 0);
        Due.is("minute", x.count(2), 107);
        x.strike(0);
        Due.refused(x, "0", () -> x.go(0), OUTSIDE);
        Due.refused(x, "100", () -> x.go(100), OUTSIDE);
        Due.refused(x, "-1", () -> x.go(-1), OUTSIDE);
        Due.refused(x, "greatest", () -> x.go(Integer.MAX_VALUE), OUTSIDE);
    }

    private static void eachOnce() {
        HundredGongs x = Due.told("hears 1 0 1;plain 1 2;hears 0 1 1");
        x.strike(0);
        x.turn(2);
        x.strike(0);
        x.turn(0);
        Due.is("in two and in three", x.gong(1, 4), 2);
        x.go(1);
        x.strike(0);
        Due.is("in one, in two twice", x.go(1), 1);
        Due.is("in one: 0 and 1 in the same minute", x.go(1), 2);
        Due.is("0 by 1", x.gong(0, 3), 4);
        Due.is("1 by 0", x.gong(1, 3), 2);
        Due.is("both to come", x.count(3), 3);
        HundredGongs y = Due.told("cloister 2;hears 1 0 1;hears 0 1 1");
        y.strike(0);
        y.strike(1);
        Due.is("both in each minute", y.go(99), 198);
        Due.is("each", y.gong(0, 3), 100);
        Due.is("both to come", y.count(3), 3);
    }

    private static void farMinutes() {
        HundredGongs x = Due.told("cloister 2;hears 1 0 1;sleepy 1 20;frost");
        x.strike(0);
        Due.is("not in 40", x.go(40), 0);
        Due.is("in 41", x.go(1), 1);
        for (int i = 0; i < 500; i++) {
            x.go(99);
        }
        Due.is("the last minute that 512 calls reach", x.count(2), 49541);
    }

    private static void turn() {
        HundredGongs x = Due.told("hears 1 0 5;plain 1 3;hears 2 1 5;plain 2 3");
        x.strike(0);
        Due.is("from clear", x.turn(1), 0);
        Due.is("what is to come stays", x.gong(1, 4), 3);
        Due.is("it strikes in fog", x.go(3), 1);
        Due.is("and is not heard there", x.count(3), 0);
        Due.is("from fog", x.turn(2), 1);
        x.strike(0);
        Due.is("one more in frost", x.gong(1, 4), 4);
        Due.is("from frost", x.turn(0), 2);
        Due.is("it stays four", x.gong(1, 4), 4);
        Due.is("to the same", x.turn(0), 0);
        x.go(4);
        Due.is("by weather as it is then", x.gong(2, 4), 3);
        Due.refused(x, "3", () -> x.turn(3), OUTSIDE);
        Due.refused(x, "-1", () -> x.turn(-1), OUTSIDE);
    }

    private static void keepAndBack() {
        HundredGongs x = Due.told("hears 1 0 1;doubter 1 2;hears 2 0 1;plain 2 9;hears 0 2 1");
        x.strike(0);
        x.go(3);
        x.turn(2);
        Due.is("keep 0", x.keep(0), 3);
        String then = Due.look(x);
        Due.is("go on", x.go(8), 2);
        x.turn(1);
        x.strike(3);
        Due.is("keep 1", x.keep(1), 11);
        String later = Due.look(x);
        x.go(20);
        Due.is("back 0", x.back(0), 3);
        Due.isTrue("as it was kept in 0", then.equals(Due.look(x)));
        Due.is("it goes on as it did", x.go(8), 2);
        Due.is("back 1", x.back(1), 11);
        Due.isTrue("as it was kept in 1", later.equals(Due.look(x)));
        Due.is("back 0 again", x.back(0), 3);
        Due.is("what is kept does not go on", x.count(2), 3);
        x.go(1);
        Due.is("kept anew", x.keep(0), 4);
        x.go(1);
        Due.is("that is it now", x.back(0), 4);
    }

    private static void keepADoubter() {
        HundredGongs x = Due.told("hears 1 0 1;doubter 1 2");
        x.strike(0);
        x.keep(0);
        Due.is("the second", x.strike(0), 2);
        x.keep(1);
        x.back(0);
        Due.is("the first was heard", x.monk(1, 3), 1);
        Due.is("the second once more", x.strike(0), 2);
        x.back(1);
        Due.is("the third", x.strike(0), 0);
    }

    /** No 512 calls come so far, so the document leaves free what is looked at here; the class holds to it all the same. */
    private static void aboveTheLastMinute() {
        HundredGongs x = new HundredGongs();
        for (int i = 0; i < 1010; i++) {
            x.go(99);
        }
        Due.is("minute", x.count(2), 99990);
        Due.refused(x, "one above", () -> x.go(10), FULL);
        Due.refused(x, "OUTSIDE is ahead of FULL", () -> x.go(100), OUTSIDE);
        Due.is("the last", x.go(9), 0);
        Due.is("minute", x.count(2), 99999);
        Due.refused(x, "no more", () -> x.go(1), FULL);
    }

    private static void keepAndBackRefused() {
        HundredGongs x = Due.told("hears 1 0 1");
        x.strike(0);
        Due.refused(x, "keep 2", () -> x.keep(2), UNKNOWN);
        Due.is("keep -1", x.keep(-1), UNKNOWN);
        Due.refused(x, "back 2", () -> x.back(2), UNKNOWN);
        Due.is("back -1", x.back(-1), UNKNOWN);
        x.keep(1);
        Due.refused(x, "the other one is not kept", () -> x.back(0), NOT);
        Due.is("the one is", x.back(1), 0);
        x.seen(1, 1);
        x.write(32, 1);
        x.back(1);
        Due.is("what is seen is not kept", x.count(5), 1);
        Due.is("nor the text", x.count(6), 1);
        x.erase();
        Due.tell(x, "clear");
        Due.refused(x, "since the last text", () -> x.back(1), NOT);
        Due.is("none to come", x.gong(1, 4), NONE);
    }
}
