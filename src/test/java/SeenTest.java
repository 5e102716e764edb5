/** Promises 23 to 26: what was seen, who may have slept, and the counts. */
public final class SeenTest {
    private static final int UNKNOWN = Due.UNKNOWN, OUTSIDE = Due.OUTSIDE, FULL = Due.FULL;

    public static void main(String[] args) {
        seen();
        forget();
        asleepInAChain();
        asleepInARing();
        asleepRefused();
        count();
        Due.end("SeenTest");
    }

    private static void seen() {
        HundredGongs x = new HundredGongs();
        for (int i = 1; i <= 8; i++) {
            Due.is("seen", x.seen(i % 4, i % 2), i);
        }
        Due.refused(x, "a ninth", () -> x.seen(0, 0), FULL);
        Due.refused(x, "UNKNOWN is ahead of all", () -> x.seen(4, 2), UNKNOWN);
        Due.refused(x, "OUTSIDE is ahead of FULL", () -> x.seen(0, 2), OUTSIDE);
        HundredGongs y = new HundredGongs();
        Due.refused(y, "no such gong", () -> y.seen(-1, 0), UNKNOWN);
        Due.refused(y, "neither struck nor not", () -> y.seen(3, -1), OUTSIDE);
        Due.is("the first", y.seen(3, 1), 1);
        y.strike(0);
        y.go(5);
        y.turn(1);
        Due.is("it stays seen", y.count(5), 1);
    }

    private static void forget() {
        HundredGongs x = new HundredGongs();
        Due.is("nothing", x.forget(), 0);
        x.seen(0, 1);
        x.seen(0, 0);
        Due.is("they do not go together", x.asleep(0, 0), 0);
        Due.is("two", x.forget(), 2);
        Due.is("nothing then", x.count(5), 0);
        Due.is("all are so again", x.asleep(0, 0), 14);
        Due.is("the first again", x.seen(0, 1), 1);
        x.forget();
        Due.is("from 1", x.asleep(1, 0), 13);
        Due.is("from 3", x.asleep(3, 0), 7);
    }

    private static void asleepInAChain() {
        HundredGongs x = Due.told("cloister 7;hears 1 0 1;hears 2 1 1;hears 3 2 5;hears 4 0 1;deaf 5 1;hears 5 0 1;hears 6 0 1;doubter 6 1");
        Due.is("nothing seen: any but the one that is struck", x.asleep(0, 0), 126);
        Due.is("and none", x.asleep(0, 1), 1);
        x.seen(3, 0);
        Due.is("one of those on the way", x.asleep(0, 0), 14);
        Due.is("not none", x.asleep(0, 1), 0);
        x.seen(4, 1);
        Due.is("the other wing is awake", x.asleep(0, 0), 14);
        x.seen(1, 1);
        Due.is("not the first", x.asleep(0, 0), 12);
        Due.is("from another one", x.asleep(1, 0), 0);
        x.seen(6, 0);
        Due.is("a doubter does not strike anyhow", x.asleep(0, 0), 12);
        x.turn(1);
        Due.is("by weather as it is: 3 does not hear", x.asleep(0, 0), 44 + 64);
        Due.is("so none may have slept", x.asleep(0, 1), 1);
        x.seen(5, 1);
        Due.is("a deaf one struck", x.asleep(0, 0), 0);
        x.forget();
        x.seen(0, 0);
        Due.is("the one that is struck strikes", x.asleep(0, 0), 0);
    }

    private static void asleepInARing() {
        HundredGongs x = Due.told("cloister 5;hears 0 2 1;hears 1 0 1;hears 2 1 1;hears 3 0 1;doubter 3 1");
        x.seen(3, 0);
        Due.is("the doubter, or one without whom it does not come round", x.asleep(0, 0), 14);
        x.seen(2, 1);
        Due.is("the doubter himself", x.asleep(0, 0), 8);
        Due.is("had none slept he had struck", x.asleep(0, 1), 0);
        x.forget();
        x.seen(3, 1);
        Due.is("had none of those slept", x.asleep(0, 0), 16);
        Due.is("nor any", x.asleep(0, 1), 1);
    }

    private static void asleepRefused() {
        HundredGongs x = new HundredGongs();
        x.seen(0, 1);
        Due.refused(x, "no such", () -> x.asleep(4, 2), UNKNOWN);
        Due.refused(x, "no such", () -> x.asleep(-1, 0), UNKNOWN);
        Due.refused(x, "2", () -> x.asleep(0, 2), OUTSIDE);
        Due.refused(x, "-1", () -> x.asleep(0, -1), OUTSIDE);
    }

    private static void count() {
        HundredGongs x = Due.told("cloister 10;hears 9 0 1;plain 9 5;hears 1 0 1;plain 1 2;frost");
        x.strike(0);
        x.strike(0);
        x.go(3);
        x.seen(1, 1);
        x.seen(9, 0);
        x.write(0, 5);
        Due.is("gongs", x.count(0), 10);
        Due.is("weather", x.count(1), 2);
        Due.is("minute", x.count(2), 3);
        Due.is("to strike", x.count(3), 512);
        Due.is("strikes", x.count(4), 3);
        Due.is("seen", x.count(5), 2);
        Due.is("bytes", x.count(6), 5);
        Due.refused(x, "7", () -> x.count(7), OUTSIDE);
        Due.is("-1", x.count(-1), OUTSIDE);
        Due.is("least", x.count(Integer.MIN_VALUE), OUTSIDE);
    }
}
