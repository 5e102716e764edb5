/** Promises 14 to 22: what is foretold. */
public final class ForetoldTest {
    private static final int NONE = Due.NONE, UNKNOWN = Due.UNKNOWN, OUTSIDE = Due.OUTSIDE;
    /** A ring 0 1 2 of 1 + 2 + 3 minutes; doubters 3, 4 behind one another, 5 behind them; 6 plain at 1; 7 alone. */
    private static final String RING = "cloister 8;hears 0 2 1;hears 1 0 1;plain 1 2;hears 2 1 1;plain 2 3;"
            + "hears 3 0 1;doubter 3 5;hears 4 3 1;doubter 4 7;hears 5 4 1";

    public static void main(String[] args) {
        first();
        firstOfManyDoubters();
        who();
        ends();
        round();
        times();
        apart();
        change();
        over();
        overFogAndSpans();
        odds();
        nothingChanges();
        unknown();
        outside();
        Due.end("ForetoldTest");
    }

    private static HundredGongs chain() {
        return Due.told("cloister 6;hears 1 0 2;plain 1 3;hears 2 1 5;sleepy 2 4;hears 3 2 1;doubter 3 2;hears 4 1 9;deaf 4 1");
    }

    private static void first() {
        HundredGongs x = chain();
        Due.is("itself", x.first(0, 0), 0);
        Due.is("the next", x.first(0, 1), 3);
        Due.is("a sleepy one behind", x.first(0, 2), 11);
        Due.is("a doubter never", x.first(0, 3), NONE);
        Due.is("a deaf one never", x.first(0, 4), NONE);
        Due.is("alone", x.first(0, 5), NONE);
        Due.is("not against the way", x.first(1, 0), NONE);
        Due.is("from the middle", x.first(1, 2), 8);
        Due.is("of a doubter that is struck", x.first(3, 3), 0);
        x.turn(2);
        Due.is("in frost one more each", x.first(0, 2), 13);
        x.turn(1);
        Due.is("in fog not over 5", x.first(0, 2), NONE);
        Due.is("over 2", x.first(0, 1), 3);
        HundredGongs y = Due.told(RING);
        Due.is("round the ring", y.first(1, 0), 4);
        Due.is("a doubter strikes by the second round", y.first(0, 3), 6 + 5);
        Due.is("a doubter behind him by the fourth", y.first(0, 4), 3 * 6 + 5 + 7);
        Due.is("a plain one behind those", y.first(0, 5), 3 * 6 + 5 + 7 + 1);
        Due.is("from elsewhere in the ring", y.first(1, 3), 4 + 6 + 5);
        Due.is("a doubter alone does not", y.first(3, 4), NONE);
        Due.tell(y, "doubter 0 1");
        Due.is("a ring with a doubter does not come round", y.first(1, 0), NONE);
        Due.is("nor does the one behind it", y.first(0, 3), NONE);
        Due.is("up to him it does", y.first(0, 2), 5);
    }

    private static void firstOfManyDoubters() {
        HundredGongs x = Due.told("cloister 10;hears 0 1 1;hears 1 0 1;sleepy 0 20;sleepy 1 20;frost");
        Due.tell(x, "hears 2 1 1;hears 3 2 1;hears 4 3 1;hears 5 4 1;hears 6 5 1;hears 7 6 1;hears 8 7 1;hears 9 8 1");
        Due.tell(x, "doubter 2 20;doubter 3 20;doubter 4 20;doubter 5 20;doubter 6 20;doubter 7 20;doubter 8 20;doubter 9 20");
        Due.is("eight doubters behind one another", x.first(0, 9), 41 + 255 * 82 + 8 * 21);
        Due.is("all strike", x.who(0), 1023);
    }

    private static void who() {
        HundredGongs x = chain();
        Due.is("who", x.who(0), 7);
        Due.is("of a doubter", x.who(3), 8);
        Due.is("of a deaf one", x.who(4), 16);
        x.turn(1);
        Due.is("in fog", x.who(0), 3);
        HundredGongs y = Due.told(RING);
        Due.is("for ever", y.who(0), 63);
        Due.is("for ever, from elsewhere", y.who(2), 63);
        Due.is("a doubter off the ring", y.who(3), 8);
        Due.is("the last of them", y.who(5), 32);
    }

    private static void ends() {
        HundredGongs x = chain();
        Due.is("ends", x.ends(0), 11);
        Due.is("at once", x.ends(2), 0);
        x.turn(2);
        Due.is("in frost", x.ends(0), 13);
        x.turn(1);
        Due.is("in fog", x.ends(0), 3);
        HundredGongs y = Due.told(RING);
        Due.is("for ever", y.ends(0), NONE);
        Due.is("for ever", y.ends(2), NONE);
        Due.is("off the ring", y.ends(3), 0);
        Due.tell(y, "doubter 1 2;hears 7 0 1;plain 7 20");
        Due.is("the longer of two wings", y.ends(0), 20);
        Due.is("a doubter that is struck, round to himself", y.ends(1), 24);
        Due.is("the last one is 0", Due.told("hears 0 1 1;plain 0 9;hears 2 1 1").ends(1), 9);
    }

    private static void round() {
        HundredGongs x = Due.told(RING);
        for (int gong = 0; gong < 3; gong++) {
            Due.is("of the ring", x.round(gong), 6);
        }
        for (int gong = 3; gong < 8; gong++) {
            Due.is("off the ring", x.round(gong), NONE);
        }
        x.turn(2);
        Due.is("in frost", x.round(0), 9);
        x.turn(1);
        Due.is("in fog, over 1", x.round(0), 6);
        Due.tell(x, "hears 2 1 5;sleepy 2 3");
        Due.is("of a sleepy one", x.round(0), 9);
        x.turn(1);
        Due.is("in fog, over 5", x.round(0), NONE);
        Due.tell(x, "doubter 0 1");
        Due.is("that doubts itself", x.round(0), NONE);
        Due.is("by one that doubts", x.round(1), NONE);
        Due.tell(x, "deaf 0 1");
        Due.is("that is deaf", x.round(0), NONE);
        HundredGongs y = Due.told("cloister 10;hears 0 9 1;hears 1 0 1;hears 2 1 1;hears 3 2 1;hears 4 3 1;hears 5 4 1;hears 6 5 1");
        Due.tell(y, "hears 7 6 1;hears 8 7 1;hears 9 8 1");
        Due.is("of all ten", y.round(9), 10);
    }

    private static void times() {
        HundredGongs x = Due.told("cloister 6;hears 1 0 1;doubter 1 1;hears 2 1 1;hears 3 2 1;doubter 3 1;hears 4 0 1;hears 5 4 1;deaf 5 1");
        for (int m = 1; m <= 64; m++) {
            Due.is("itself", x.times(0, 0, m), m);
            Due.is("a doubter", x.times(0, 1, m), m / 2);
            Due.is("behind him", x.times(0, 2, m), m / 2);
            Due.is("another doubter", x.times(0, 3, m), m / 4);
            Due.is("no doubter", x.times(0, 4, m), m);
        }
        Due.is("deaf", x.times(0, 5, 64), 0);
        Due.is("against the way", x.times(1, 0, 64), 0);
        HundredGongs ring = Due.told(RING);
        Due.is("for ever", ring.times(0, 0, 1), NONE);
        Due.is("for ever, though he never strikes", ring.times(0, 7, 1), NONE);
        Due.is("off the ring", ring.times(3, 4, 3), 1);
        Due.tell(ring, "doubter 2 3");
        Due.is("once round by every second: 1", ring.times(0, 0, 1), 1);
        Due.is("1 + 2", ring.times(0, 0, 2), 3);
        Due.is("1 + 2 + 2", ring.times(0, 0, 3), 5);
        Due.is("of 64", ring.times(0, 0, 64), 127);
        Due.is("of 64, through a doubter", ring.times(0, 3, 64), 63);
        Due.is("of 64, through two", ring.times(0, 5, 64), 31);
        Due.is("a doubter who is struck", ring.times(2, 2, 3), 5);
        Due.tell(ring, "doubter 1 3");
        Due.is("two doubters in the ring, 3 times", ring.times(0, 0, 3), 3);
        Due.is("two doubters in the ring, 4 times", ring.times(0, 0, 4), 5);
        Due.is("two doubters in the ring, 6 times", ring.times(0, 0, 6), 7);
        Due.is("two doubters in the ring, 7 times", ring.times(0, 0, 7), 9);
        ring.strike(0);
        Due.is("doubters have heard nothing", ring.times(0, 1, 1), 0);
    }

    private static void apart() {
        HundredGongs x = chain();
        Due.is("apart", x.apart(0, 1, 2), 8);
        Due.is("the other way", x.apart(0, 2, 1), 8);
        Due.is("from itself", x.apart(0, 0, 2), 11);
        Due.is("of one", x.apart(0, 2, 2), 0);
        Due.is("the one never", x.apart(0, 3, 2), NONE);
        Due.is("the other never", x.apart(0, 2, 5), NONE);
        Due.is("of one that never does", x.apart(0, 5, 5), NONE);
        Due.is("of a ring", Due.told(RING).apart(0, 2, 3), 6);
    }

    private static void change() {
        HundredGongs x = Due.told("hears 1 0 1;plain 1 3;hears 2 0 1;plain 2 10;plain 3 4");
        Due.is("now", x.apart(0, 1, 2), 7);
        Due.is("apart then", x.change(0, 1, 2, 0), 1);
        Due.is("the lesser", x.change(0, 1, 2, 1), 2);
        Due.is("the other", x.change(0, 1, 2, 2), 3);
        Due.tell(x, "plain 0 9;plain 3 11");
        Due.is("two as near: the first pair", x.change(0, 1, 2, 0), 1);
        Due.is("the lesser", x.change(0, 1, 2, 1), 0);
        Due.is("the other", x.change(0, 1, 2, 2), 1);
        Due.tell(x, "plain 2 3");
        Due.is("no nearer than 0", x.change(0, 1, 2, 0), NONE);
        Due.is("none", x.change(0, 1, 2, 1), NONE);
        Due.is("none", x.change(0, 1, 2, 2), NONE);
        Due.is("of one", x.change(0, 1, 1, 0), NONE);
        Due.tell(x, "deaf 2 3;plain 0 5;deaf 3 5");
        Due.is("now none", x.apart(0, 1, 2), NONE);
        Due.is("any is nearer then", x.change(0, 1, 2, 0), 2);
        Due.is("the lesser", x.change(0, 1, 2, 1), 0);
        Due.is("the other", x.change(0, 1, 2, 2), 2);
        Due.tell(x, "deaf 0 1;deaf 1 1");
        Due.is("all deaf", x.change(0, 1, 2, 0), NONE);
        Due.tell(x, "alone 1;alone 2;plain 1 1;plain 2 1");
        Due.is("one stays alone", x.change(0, 1, 2, 2), NONE);
        Due.tell(x, "hears 1 0 1;hears 2 0 5;plain 1 1;plain 2 9;fog");
        Due.is("in fog", x.change(0, 1, 2, 0), NONE);
    }

    private static void over() {
        HundredGongs x = Due.told("cloister 7;hears 1 0 4;deaf 1 1;hears 2 1 4;hears 3 1 5;hears 4 3 1;deaf 4 1;hears 5 4 1;hears 6 5 1");
        Due.is("who now", x.who(0), 1);
        Due.is("over", x.over(0, 0), 1);
        Due.is("how many then", x.over(0, 1), 3);
        Due.is("from 3, over 4", x.over(3, 0), 4);
        Due.is("how many then", x.over(3, 1), 3);
        Due.is("nothing gained", x.over(5, 0), NONE);
        Due.is("nothing gained", x.over(5, 1), NONE);
        Due.is("not the deaf one that is struck: it would be heard less", x.over(1, 0), 4);
        Due.is("all but two then", x.over(1, 1), 5);
        HundredGongs two = Due.told("cloister 6;deaf 1 1;deaf 2 1;hears 1 0 1;hears 2 0 1;hears 3 1 1;hears 4 2 1;hears 5 2 1");
        Due.is("most", two.over(0, 0), 2);
        Due.is("most then", two.over(0, 1), 3);
        Due.tell(two, "alone 5");
        Due.is("of several the least", two.over(0, 0), 1);
        Due.is("then", two.over(0, 1), 2);
        HundredGongs none = Due.told("deaf 1 1;hears 2 1 1;hears 3 2 1");
        Due.is("the deaf one hears none", none.over(0, 0), NONE);
        Due.tell(none, "hears 1 2 1");
        Due.is("none hears itself", none.over(1, 0), NONE);
        Due.tell(none, "hears 3 1 1;hears 1 2 1;hears 2 1 1");
        Due.is("but another one hears it", none.over(2, 0), 1);
        Due.is("two then", none.over(2, 1), 2);
        HundredGongs zero = Due.told("deaf 0 1;hears 0 3 1;hears 1 0 1");
        Due.is("0 is deaf", zero.over(3, 0), 0);
        Due.is("two then", zero.over(3, 1), 2);
        Due.tell(zero, "plain 0 1;deaf 3 1;hears 0 3 1;hears 3 2 1;alone 1");
        Due.is("0 hears over", zero.over(2, 0), 3);
        Due.is("of two gongs, both deaf", Due.told("cloister 2;deaf 0 1;deaf 1 1;hears 0 1 1;hears 1 0 1").over(0, 0), NONE);
    }

    private static void overFogAndSpans() {
        HundredGongs x = Due.told("hears 1 0 2;deaf 1 1;hears 2 1 2;hears 3 2 1");
        Due.is("2 and 2", x.over(0, 1), 3);
        x.turn(1);
        Due.is("4 in fog", x.over(0, 1), 3);
        Due.tell(x, "hears 2 1 3");
        x.turn(1);
        Due.is("5 in fog", x.over(0, 0), NONE);
        Due.tell(x, "hears 1 0 6");
        Due.is("6 and 3", x.over(0, 0), 1);
        Due.tell(x, "hears 1 0 7");
        Due.is("7 and 3", x.over(0, 0), NONE);
        Due.tell(x, "hears 1 0 1;doubter 2 1");
        Due.is("a doubter", x.over(0, 0), NONE);
        Due.tell(x, "hears 0 3 1;plain 2 1;doubter 3 1");
        Due.is("a ring that dies", x.over(0, 1), 2);
    }

    private static void odds() {
        HundredGongs x = Due.told("cloister 10;hears 1 0 1;hears 2 1 1;hears 3 2 1;hears 4 3 1;hears 5 4 1;hears 6 5 1;hears 7 6 1;hears 8 7 1;hears 9 8 1");
        int[][] due = {{1, 1}, {9, 10}, {4, 5}, {7, 10}, {3, 5}, {1, 2}, {2, 5}, {3, 10}, {1, 5}, {1, 10}, {0, 1}};
        for (int p = 0; p <= 10; p++) {
            long above = 1;
            long below = 1;
            for (int gong = 0; gong <= 9; gong++) {
                Due.is("odds above", x.odds(0, gong, p, 0), above);
                Due.is("odds below", x.odds(0, gong, p, 1), below);
                above *= due[p][0];
                below *= due[p][1];
            }
        }
        Due.is("not that of the one that is struck", x.odds(8, 9, 5, 1), 2);
        Due.is("never", x.odds(1, 0, 5, 0), 0);
        Due.is("never, below", x.odds(1, 0, 5, 1), 1);
        Due.is("never, none asleep", x.odds(1, 0, 0, 0), 0);
        Due.tell(x, "doubter 5 1");
        Due.is("a doubter never", x.odds(0, 5, 1, 0), 0);
        Due.is("a doubter never, below", x.odds(0, 5, 1, 1), 1);
        HundredGongs ring = Due.told(RING);
        Due.is("the way to a doubter off a ring", ring.odds(1, 3, 1, 0), 729);
        Due.is("below", ring.odds(1, 3, 1, 1), 1000);
        Due.is("itself in a ring", ring.odds(1, 1, 9, 0), 1);
    }

    private static void nothingChanges() {
        HundredGongs x = Due.told("cloister 3;hears 1 0 1;doubter 1 3;hears 2 1 1;deaf 2 1;frost");
        x.strike(0);
        x.turn(0);
        x.go(1);
        x.seen(1, 1);
        String before = Due.look(x);
        x.first(0, 1);
        x.who(0);
        x.ends(0);
        x.round(0);
        x.times(0, 1, 5);
        x.apart(0, 0, 1);
        x.change(0, 0, 1, 0);
        x.over(0, 0);
        x.odds(0, 1, 5, 0);
        Due.isTrue("nothing changes", before.equals(Due.look(x)));
        Due.is("still the second", x.strike(0), 2);
        Due.is("doubters having heard nothing", x.first(0, 1), NONE);
    }

    private static void unknown() {
        HundredGongs x = new HundredGongs();
        for (int bad : new int[] {-1, 4, Integer.MIN_VALUE, Integer.MAX_VALUE}) {
            Due.is("first", x.first(bad, 0), UNKNOWN);
            Due.is("first", x.first(0, bad), UNKNOWN);
            Due.is("who", x.who(bad), UNKNOWN);
            Due.is("ends", x.ends(bad), UNKNOWN);
            Due.is("round", x.round(bad), UNKNOWN);
            Due.is("times", x.times(bad, 0, 0), UNKNOWN);
            Due.is("times", x.times(0, bad, 65), UNKNOWN);
            Due.is("apart", x.apart(bad, 0, 1), UNKNOWN);
            Due.is("apart", x.apart(0, bad, 1), UNKNOWN);
            Due.is("apart", x.apart(0, 1, bad), UNKNOWN);
            Due.is("change", x.change(bad, 0, 1, 3), UNKNOWN);
            Due.is("change", x.change(0, bad, 1, -1), UNKNOWN);
            Due.is("change", x.change(0, 1, bad, 0), UNKNOWN);
            Due.is("over", x.over(bad, 2), UNKNOWN);
            Due.is("odds", x.odds(bad, 0, 11, 0), UNKNOWN);
            Due.is("odds", x.odds(0, bad, 0, 2), UNKNOWN);
        }
        Due.refused(x, "who", () -> x.who(4), UNKNOWN);
    }

    private static void outside() {
        HundredGongs x = new HundredGongs();
        Due.is("times 0", x.times(0, 1, 0), OUTSIDE);
        Due.is("times 65", x.times(0, 1, 65), OUTSIDE);
        Due.is("times -1", x.times(0, 1, -1), OUTSIDE);
        Due.is("times 64", x.times(0, 0, 64), 64);
        Due.is("change 3", x.change(0, 1, 2, 3), OUTSIDE);
        Due.is("change -1", x.change(0, 1, 2, -1), OUTSIDE);
        Due.is("over 2", x.over(0, 2), OUTSIDE);
        Due.is("over -1", x.over(0, -1), OUTSIDE);
        Due.is("odds p 11", x.odds(0, 0, 11, 0), OUTSIDE);
        Due.is("odds p -1", x.odds(0, 0, -1, 0), OUTSIDE);
        Due.is("odds part 2", x.odds(0, 0, 0, 2), OUTSIDE);
        Due.is("odds part -1", x.odds(0, 0, 0, -1), OUTSIDE);
        Due.refused(x, "odds", () -> x.odds(0, 0, 11, 2), OUTSIDE);
    }
}
