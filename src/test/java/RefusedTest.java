import java.util.function.Consumer;
import java.util.function.ToIntFunction;

/**
 * "Refused, and nothing changes: UNKNOWN, OUTSIDE, NOT, FULL: the first of these that fits." Each refusal of each call,
 * at the numbers next to its bounds and far away, beside a twin of the same past to whom the call was never made.
 */
public final class RefusedTest {
    private static final int UNKNOWN = Due.UNKNOWN, OUTSIDE = Due.OUTSIDE, NOT = Due.NOT, FULL = Due.FULL;
    private static final int LEAST = Integer.MIN_VALUE, GREATEST = Integer.MAX_VALUE;
    /** Those below 0, and those whose low byte or half would be 0 if it were taken alone. */
    private static final int[] FAR = {LEAST, LEAST + 1, -65536, -256, -32, -2, -1, 128, 256, 65536, 1 << 30, GREATEST - 1, GREATEST};

    public static void main(String[] args) {
        gongsThatAreNot();
        numbersNotAsTold();
        noSuchKind();
        aFaultInTheText();
        aTextThatIsNotDone();
        nothingKept();
        fullOfBytes();
        fullOfSightings();
        unknownIsAheadOfAll();
        aheadOfNot();
        aheadOfFull();
        calls512();
        Due.end("RefusedTest");
    }

    /** Each thing that can be another is not as at first: gongs, monks, weather, minute, what comes, kept, seen, text. */
    private static void busyPast(HundredGongs x) {
        Due.tell(x, "cloister 5;hears 1 0 1;doubter 1 3;hears 2 1 5;sleepy 2 9;hears 3 0 9;hears 4 3 1;deaf 4 2;frost");
        x.strike(0);
        x.keep(0);
        x.strike(0);
        x.go(2);
        x.turn(0);
        x.keep(1);
        x.strike(0);
        x.seen(1, 1);
        x.seen(3, 0);
        Due.write(x, "alone 3;plain 2 7");
    }

    private static void fullText(HundredGongs x) {
        busyPast(x);
        Due.write(x, " ".repeat(200 - x.count(6) - 4) + ";fog");
    }

    private static void fullSightings(HundredGongs x) {
        busyPast(x);
        for (int i = 3; i <= 8; i++) {
            Due.is("seen", x.seen(i % 5, i % 2), i);
        }
    }

    private static void refused(String call, Consumer<HundredGongs> past, ToIntFunction<HundredGongs> refusedCall, int want) {
        HundredGongs one = new HundredGongs();
        HundredGongs twin = new HundredGongs();
        past.accept(one);
        past.accept(twin);
        Due.is(call, refusedCall.applyAsInt(one), want);
        Due.isTrue(call + " changes nothing", whatComes(one).equals(whatComes(twin)));
    }

    private static void refused(String call, ToIntFunction<HundredGongs> refusedCall, int want) {
        refused(call, RefusedTest::busyPast, refusedCall, want);
    }

    /** All that can be seen of it now, of what it kept, of what comes, of its text. */
    private static String whatComes(HundredGongs x) {
        StringBuilder all = new StringBuilder(Due.look(x));
        all.append(" go ").append(x.go(3)).append(' ').append(Due.look(x));
        all.append(" back ").append(x.back(0)).append(' ').append(Due.look(x));
        all.append(" back ").append(x.back(1)).append(' ').append(Due.look(x));
        all.append(" text ").append(x.cloister()).append(' ').append(Due.look(x));
        all.append(" left ").append(x.erase()).append(' ').append(x.forget());
        return all.toString();
    }

    /** "UNKNOWN (no such GONG)": in each call that takes one, at each of its places. */
    private static void gongsThatAreNot() {
        gongThatIsNot(5);
        gongThatIsNot(6);
        gongThatIsNot(9);
        gongThatIsNot(10);
        for (int bad : FAR) {
            gongThatIsNot(bad);
        }
    }

    private static void gongThatIsNot(int bad) {
        refused("gong of " + bad, x -> x.gong(bad, 0), UNKNOWN);
        refused("monk of " + bad, x -> x.monk(bad, 0), UNKNOWN);
        refused("as of " + bad, x -> x.as(bad, 0), UNKNOWN);
        refused("strike of " + bad, x -> x.strike(bad), UNKNOWN);
        refused("first from " + bad, x -> x.first(bad, 0), UNKNOWN);
        refused("first of " + bad, x -> x.first(0, bad), UNKNOWN);
        refused("first of both " + bad, x -> x.first(bad, bad), UNKNOWN);
        refused("who from " + bad, x -> x.who(bad), UNKNOWN);
        refused("ends from " + bad, x -> x.ends(bad), UNKNOWN);
        refused("round of " + bad, x -> x.round(bad), UNKNOWN);
        refused("times from " + bad, x -> x.times(bad, 0, 1), UNKNOWN);
        refused("times of " + bad, x -> x.times(0, bad, 1), UNKNOWN);
        refused("apart from " + bad, x -> x.apart(bad, 0, 1), UNKNOWN);
        refused("apart of " + bad, x -> x.apart(0, bad, 1), UNKNOWN);
        refused("apart of the other " + bad, x -> x.apart(0, 1, bad), UNKNOWN);
        refused("change from " + bad, x -> x.change(bad, 0, 1, 0), UNKNOWN);
        refused("change of " + bad, x -> x.change(0, bad, 1, 0), UNKNOWN);
        refused("change of the other " + bad, x -> x.change(0, 1, bad, 0), UNKNOWN);
        refused("over from " + bad, x -> x.over(bad, 0), UNKNOWN);
        refused("odds from " + bad, x -> x.odds(bad, 0, 1, 0), UNKNOWN);
        refused("odds of " + bad, x -> x.odds(0, bad, 1, 0), UNKNOWN);
        refused("seen of " + bad, x -> x.seen(bad, 0), UNKNOWN);
        refused("asleep from " + bad, x -> x.asleep(bad, 0), UNKNOWN);
        if (bad != 0 && bad != 1) {
            refused("keep " + bad, x -> x.keep(bad), UNKNOWN);
            refused("back " + bad, x -> x.back(bad), UNKNOWN);
        }
    }

    /** "OUTSIDE (another number is not as told)": just behind each bound, and far behind. */
    private static void numbersNotAsTold() {
        refused("keep 2", x -> x.keep(2), UNKNOWN);
        refused("back 2", x -> x.back(2), UNKNOWN);
        numberNotAsTold("write n", (x, n) -> x.write(0x676f66L, n), 0, 9);
        numberNotAsTold("gong what", (x, n) -> x.gong(1, n), -1, 5);
        numberNotAsTold("monk what", (x, n) -> x.monk(1, n), -1, 4);
        numberNotAsTold("as", (x, n) -> x.as(1, n), -1, 5);
        numberNotAsTold("go", (x, n) -> x.go(n), 0, 100);
        numberNotAsTold("turn", (x, n) -> x.turn(n), -1, 3);
        numberNotAsTold("times", (x, n) -> x.times(0, 1, n), 0, 65);
        numberNotAsTold("change what", (x, n) -> x.change(0, 1, 2, n), -1, 3);
        numberNotAsTold("over what", (x, n) -> x.over(0, n), -1, 2);
        numberNotAsTold("odds p", (x, n) -> x.odds(0, 3, n, 0), -1, 11);
        numberNotAsTold("odds part", (x, n) -> x.odds(0, 3, 5, n), -1, 2);
        numberNotAsTold("odds p of one that never strikes", (x, n) -> x.odds(0, 4, n, 0), -1, 11);
        numberNotAsTold("seen", (x, n) -> x.seen(1, n), -1, 2);
        numberNotAsTold("asleep what", (x, n) -> x.asleep(0, n), -1, 2);
        numberNotAsTold("count what", HundredGongs::count, -1, 7);
    }

    private interface CallWithNumber {
        int answer(HundredGongs x, int n);
    }

    private static void numberNotAsTold(String call, CallWithNumber made, int below, int above) {
        refused(call + " " + below, x -> made.answer(x, below), OUTSIDE);
        refused(call + " " + above, x -> made.answer(x, above), OUTSIDE);
        for (int bad : FAR) {
            refused(call + " " + bad, x -> made.answer(x, bad), OUTSIDE);
        }
        for (int good : new int[] {below + 1, above - 1}) {
            HundredGongs x = new HundredGongs();
            busyPast(x);
            Due.isTrue(call + " " + good + " is as told", made.answer(x, good) != OUTSIDE);
        }
    }

    /** as: "NOT: he is none such" */
    private static void noSuchKind() {
        refused("a plain one as deaf", x -> x.as(0, 2), NOT);
        refused("a plain one as sleepy", x -> x.as(0, 3), NOT);
        refused("a plain one as doubter", x -> x.as(0, 4), NOT);
        refused("a doubter as deaf", x -> x.as(1, 2), NOT);
        refused("a doubter as sleepy", x -> x.as(1, 3), NOT);
        refused("a sleepy one as deaf", x -> x.as(2, 2), NOT);
        refused("a sleepy one as doubter", x -> x.as(2, 4), NOT);
        refused("a deaf one as plain", x -> x.as(4, 1), NOT);
        refused("a deaf one as sleepy", x -> x.as(4, 3), NOT);
        refused("a deaf one as doubter", x -> x.as(4, 4), NOT);
    }

    /** cloister: "NOT: it has a FAULT"; the text, too, is as it was, and can be mended. */
    private static void aFaultInTheText() {
        Consumer<HundredGongs> noText = x -> {
            busyPast(x);
            x.erase();
        };
        refused("cloister of an empty text", noText, HundredGongs::cloister, NOT);
        Consumer<HundredGongs> faultAtTheEnd = x -> {
            busyPast(x);
            Due.write(x, ";cloister 2;fog;alone");
        };
        refused("cloister of a text that ends too soon", faultAtTheEnd, HundredGongs::cloister, NOT);
        HundredGongs x = new HundredGongs();
        faultAtTheEnd.accept(x);
        Due.is("ends too soon", x.cloister(), NOT);
        Due.is("still five gongs", x.count(0), 5);
        Due.write(x, " 1");
        Due.is("mended", x.cloister(), 5);
        Due.is("two gongs", x.count(0), 2);
        Due.is("fog", x.count(1), 1);
        Due.is("the text is empty then", x.count(6), 0);
        Due.is("so it has a fault again", x.cloister(), NOT);
    }

    /** A text that was looked at by fault, or refused by cloister, tells nothing: all answers are those of the one before. */
    private static void aTextThatIsNotDone() {
        String[] texts = {
            "cloister 2;deaf 0 9;fog",
            "cloister 10;hears 9 0 1;sleepy 0 20;sleepy 1 20;sleepy 2 20;frost",
            "hears 0 1 9;hears 1 2 9;hears 2 3 9;hears 3 4 9;plain 1 20;plain 2 20;deaf 3 20;plain 4 20;frost",
            "alone 1;alone 2;alone 3;alone 4;plain 1 1;deaf 2 1;doubter 3 1;sleepy 4 1;fog",
        };
        for (String text : texts) {
            for (String behind : new String[] {"", ";x"}) {
                HundredGongs looked = new HundredGongs();
                HundredGongs twin = new HundredGongs();
                Consumer<HundredGongs> past = x -> {
                    busyPast(x);
                    x.erase();
                    Due.write(x, text + behind);
                };
                past.accept(looked);
                past.accept(twin);
                Due.is("fault of " + text + behind, looked.fault(), behind.isEmpty() ? Due.NONE : text.length() + 1);
                if (!behind.isEmpty()) {
                    Due.is("cloister of " + text + behind, looked.cloister(), NOT);
                }
                Due.isTrue("tells nothing: " + text + behind, allAnswers(looked).equals(allAnswers(twin)));
            }
        }
    }

    /** Without a reading of the text; gongs that are not there are asked for, too. */
    private static String allAnswers(HundredGongs x) {
        StringBuilder all = new StringBuilder();
        for (int gong = 0; gong <= 10; gong++) {
            int other = (gong + 1) % 5;
            for (int what = 0; what <= 4; what++) {
                all.append(x.gong(gong, what)).append(' ').append(x.as(gong, what)).append(' ');
            }
            for (int what = 0; what <= 3; what++) {
                all.append(x.monk(gong, what)).append(' ');
            }
            all.append(x.first(0, gong)).append(' ').append(x.first(gong, other)).append(' ').append(x.who(gong)).append(' ');
            all.append(x.ends(gong)).append(' ').append(x.round(gong)).append(' ').append(x.times(0, gong, 6)).append(' ');
            all.append(x.times(gong, other, 2)).append(' ').append(x.apart(0, gong, 3)).append(' ').append(x.apart(0, 3, gong)).append(' ');
            all.append(x.apart(gong, 3, 3)).append(' ').append(x.change(0, 3, gong, 0)).append(' ').append(x.change(0, gong, 3, 1)).append(' ');
            all.append(x.change(gong, 3, 3, 0)).append(' ').append(x.over(gong, 0)).append(' ').append(x.odds(0, gong, 1, 1)).append(' ');
            all.append(x.odds(gong, 3, 1, 0)).append(' ').append(x.asleep(gong, 0)).append(' ').append(x.seen(gong, 2)).append(' ');
        }
        for (int gong = 0; gong <= 10; gong++) {
            all.append(x.strike(gong)).append(' ').append(x.go(2)).append(' ');
        }
        all.append(x.go(40)).append(' ').append(x.seen(4, 0));
        for (int what = 0; what <= 6; what++) {
            all.append(' ').append(x.count(what));
        }
        return all.toString();
    }

    /** back: "NOT: nothing was kept since the last text" */
    private static void nothingKept() {
        for (int k = 0; k <= 1; k++) {
            int kept = k;
            int other = 1 - k;
            Due.is("nothing is kept at first", new HundredGongs().back(k), NOT);
            Consumer<HundredGongs> one = x -> {
                Due.tell(x, "cloister 5;hears 1 0 1");
                x.strike(0);
                x.keep(other);
                x.go(1);
                Due.write(x, "fog");
            };
            refused("the other one is kept", one, x -> x.back(kept), NOT);
            Consumer<HundredGongs> before = x -> {
                busyPast(x);
                Due.is("a text", x.cloister(), 2);
                x.strike(3);
            };
            refused("it was kept before the text", before, x -> x.back(kept), NOT);
        }
    }

    /** write: FULL above 200 bytes. */
    private static void fullOfBytes() {
        for (int n = 1; n <= 8; n++) {
            int more = n;
            refused("write of " + n + " more than 200", RefusedTest::fullText, x -> x.write(0x2020202020202020L, more), FULL);
        }
        Consumer<HundredGongs> oneFree = x -> {
            busyPast(x);
            Due.write(x, " ".repeat(199 - x.count(6)));
        };
        refused("write of 2 more than 199", oneFree, x -> x.write(0x2020L, 2), FULL);
        refused("write of 8 more than 199", oneFree, x -> x.write(0x2020202020202020L, 8), FULL);
        HundredGongs x = new HundredGongs();
        oneFree.accept(x);
        Due.is("write of 1 more than 199", x.write(32, 1), 200);
    }

    /** "SEEN, 8 at most" */
    private static void fullOfSightings() {
        for (int gong = 0; gong < 5; gong++) {
            int one = gong;
            refused("a ninth, not struck", RefusedTest::fullSightings, x -> x.seen(one, 0), FULL);
            refused("a ninth, struck", RefusedTest::fullSightings, x -> x.seen(one, 1), FULL);
        }
        HundredGongs x = new HundredGongs();
        fullSightings(x);
        Due.is("eight are forgotten", x.forget(), 8);
        for (int i = 1; i <= 8; i++) {
            Due.is("room for eight again", x.seen(0, 1), i);
        }
        Due.is("and no more", x.seen(0, 1), FULL);
        Due.tell(emptied(x), "clear");
        Due.is("room behind a text", x.seen(0, 1), 1);
    }

    private static HundredGongs emptied(HundredGongs x) {
        x.erase();
        return x;
    }

    private static void unknownIsAheadOfAll() {
        for (int bad : new int[] {-1, 5, GREATEST}) {
            refused("gong", x -> x.gong(bad, 5), UNKNOWN);
            refused("monk", x -> x.monk(bad, 4), UNKNOWN);
            refused("as", x -> x.as(bad, 5), UNKNOWN);
            refused("times", x -> x.times(bad, 0, 0), UNKNOWN);
            refused("times", x -> x.times(0, bad, 65), UNKNOWN);
            refused("change", x -> x.change(bad, 0, 1, 3), UNKNOWN);
            refused("change", x -> x.change(0, bad, 1, -1), UNKNOWN);
            refused("change", x -> x.change(0, 1, bad, 3), UNKNOWN);
            refused("over", x -> x.over(bad, 2), UNKNOWN);
            refused("odds", x -> x.odds(bad, 0, 11, 0), UNKNOWN);
            refused("odds", x -> x.odds(0, bad, 0, 2), UNKNOWN);
            refused("odds", x -> x.odds(bad, bad, -1, -1), UNKNOWN);
            refused("asleep", x -> x.asleep(bad, 2), UNKNOWN);
            refused("seen", x -> x.seen(bad, 2), UNKNOWN);
            refused("seen of all three", RefusedTest::fullSightings, x -> x.seen(bad, 2), UNKNOWN);
            refused("seen, full", RefusedTest::fullSightings, x -> x.seen(bad, 0), UNKNOWN);
        }
    }

    private static void aheadOfNot() {
        refused("as 5 of a deaf one", x -> x.as(4, 5), OUTSIDE);
        refused("as -1 of a deaf one", x -> x.as(4, -1), OUTSIDE);
        Due.is("back 2, nothing kept", new HundredGongs().back(2), UNKNOWN);
        Due.is("back -1, nothing kept", new HundredGongs().back(-1), UNKNOWN);
    }

    private static void aheadOfFull() {
        refused("write of 0, full", RefusedTest::fullText, x -> x.write(0, 0), OUTSIDE);
        refused("write of 9, full", RefusedTest::fullText, x -> x.write(0, 9), OUTSIDE);
        refused("write of the greatest, full", RefusedTest::fullText, x -> x.write(0, GREATEST), OUTSIDE);
        refused("seen of 2, full", RefusedTest::fullSightings, x -> x.seen(0, 2), OUTSIDE);
        refused("seen of -1, full", RefusedTest::fullSightings, x -> x.seen(0, -1), OUTSIDE);
    }

    /** "An object is used for at most 512 calls": the 512th is answered as the first. */
    private static void calls512() {
        HundredGongs x = new HundredGongs();
        for (int i = 1; i <= 511; i++) {
            Due.is("refused again and again", x.strike(-i), UNKNOWN);
        }
        Due.is("the last one", x.strike(0), 0);
        HundredGongs y = new HundredGongs();
        for (int i = 1; i <= 511; i++) {
            y.go(99);
        }
        Due.is("the last minute that can be reached", y.go(99), 0);
        Due.is("it is", y.count(2), 512 * 99);
    }
}
