/** The bounds that the document's terms and promises name for minutes, what is foretold and what was seen. */
public final class BoundsTest {
    private static final int NONE = Due.NONE, NOT = Due.NOT;
    private static final int CLEAR = 0, FOG = 1, FROST = 2;
    private static final String[] KINDS = {"plain", "deaf", "sleepy", "doubter"};
    private static final String[] WEATHERS = {"clear", "fog", "frost"};

    public static void main(String[] args) {
        aNewObject();
        bytesLowestFirst();
        canOverNineInFogOverFour();
        lateOfEachKind();
        asOfEachKind();
        itStrikesInLateMinutes();
        heardAtOnceByAll();
        everySecondOfADoubter();
        aDoubterDoesNotCountWhatCannotBeHeard();
        eachOnceWhoeverMadeThem();
        theNextOfSeveralToCome();
        weatherAltersNothingToCome();
        minutesOneToNinetyNine();
        behindATextAllIsQuiet();
        keptInTwoPlaces();
        firstZeroOfItself();
        firstByALaterRound();
        foretoldAsIfQuiet();
        goesOnForEverOrEnds();
        roundFromTheLeastToTheGreatest();
        timesOneToSixtyFour();
        timesByWeatherAsItIs();
        apartAndNone();
        changeFewerThanNowOrNotNone();
        changeTheFirstPair();
        overBothSpansTogether();
        overIfThereIsOneAndNotItself();
        overADeafOneOnly();
        overMoreThanNowAndTheLeast();
        oddsFromNoneToAll();
        oddsOfTheLongestWay();
        seenEightAtMost();
        asleepByBits();
        countOfEach();
        Due.end("BoundsTest");
    }

    /** Ten gongs, each behind the one ahead of it, all over 1 and of delay 1. */
    private static HundredGongs chainOfTen() {
        HundredGongs x = Due.told("cloister 10;hears 1 0 1;hears 2 1 1;hears 3 2 1;hears 4 3 1;hears 5 4 1");
        Due.tell(x, "hears 6 5 1;hears 7 6 1;hears 8 7 1;hears 9 8 1");
        return x;
    }

    private static void allTen(HundredGongs x, String kind, int delay) {
        StringBuilder text = new StringBuilder();
        for (int gong = 0; gong < 10; gong++) {
            text.append(gong == 0 ? "" : ";").append(kind).append(' ').append(gong).append(' ').append(delay);
        }
        Due.tell(x, text.toString());
    }

    /** Promise 1: "Four GONGS, each alone." */
    private static void aNewObject() {
        HundredGongs x = new HundredGongs();
        for (int from = 0; from < 4; from++) {
            Due.is("alone", x.gong(from, 0), NONE);
            Due.is("who", x.who(from), 1 << from);
            Due.is("ends", x.ends(from), 0);
            Due.is("round", x.round(from), NONE);
            Due.is("over", x.over(from, 0), NONE);
            for (int gong = 0; gong < 4; gong++) {
                Due.is("first", x.first(from, gong), gong == from ? 0 : NONE);
            }
        }
    }

    /** Promise 2: "byte i being bytes >> 8 i & 255" */
    private static void bytesLowestFirst() {
        for (int n = 1; n <= 8; n++) {
            HundredGongs x = new HundredGongs();
            Due.is("n bytes", x.write(-1L, n), n);
            Due.is("n bytes", x.count(6), n);
            HundredGongs blanks = new HundredGongs();
            long oneBad = 0x2020202020202020L ^ 255L << 8 * (n - 1);
            Due.is("eight bytes", blanks.write(oneBad, 8), 8);
            Due.is("the place of byte " + (n - 1), blanks.fault(), n - 1);
            blanks.erase();
            Due.is("fewer bytes", blanks.write(oneBad, n), n);
            Due.is("the last of them", blanks.fault(), n - 1);
        }
        HundredGongs x = new HundredGongs();
        x.write(0x8080808080676f66L, 3);
        Due.is("what is above n does not count", x.fault(), NONE);
    }

    /** "if his MONK is not DEAF and SPAN is 9 at most, in FOG 4 at most" */
    private static void canOverNineInFogOverFour() {
        for (int kind = 0; kind < 4; kind++) {
            for (int span = 1; span <= 9; span++) {
                HundredGongs x = Due.told("hears 1 0 " + span + ";" + KINDS[kind] + " 1 1");
                for (int weather = 0; weather <= 2; weather++) {
                    x.turn(weather);
                    boolean can = kind != 1 && (weather != FOG || span <= 4);
                    Due.is("can " + kind + " " + span + " " + weather, x.gong(1, 2), can ? 1 : 0);
                    Due.is("so it is heard", x.who(0), can && kind != 3 ? 3 : 1);
                }
            }
        }
        Due.is("that hears none cannot", new HundredGongs().gong(0, 2), 0);
    }

    /** "LATE MINUTES: DELAY, of a SLEEPY one twice that, in FROST one more" */
    private static void lateOfEachKind() {
        for (int kind = 0; kind < 4; kind++) {
            for (int delay = 1; delay <= 20; delay++) {
                HundredGongs x = Due.told(KINDS[kind] + " 3 " + delay);
                for (int weather = 0; weather <= 2; weather++) {
                    x.turn(weather);
                    Due.is("late", x.monk(3, 2), late(kind, delay, weather));
                }
            }
        }
    }

    private static int late(int kind, int delay, int weather) {
        return (kind == 2 ? delay + delay : delay) + (weather == FROST ? 1 : 0);
    }

    /** "MONK (0); PLAIN (1) under it; DEAF (2) is a MONK; SLEEPY (3) is PLAIN; DOUBTER (4) is PLAIN" */
    private static void asOfEachKind() {
        boolean[][] is = {
            {true, true, false, false, false},
            {true, false, true, false, false},
            {true, true, false, true, false},
            {true, true, false, false, true},
        };
        for (int kind = 0; kind < 4; kind++) {
            for (int weather = 0; weather <= 2; weather++) {
                HundredGongs x = Due.told(KINDS[kind] + " 0 20;" + WEATHERS[weather]);
                for (int as = 0; as <= 4; as++) {
                    Due.is(KINDS[kind] + " as " + as, x.as(0, as), is[kind][as] ? late(kind, 20, weather) : NOT);
                }
            }
        }
    }

    private static void itStrikesInLateMinutes() {
        for (int kind : new int[] {0, 2}) {
            for (int delay = 1; delay <= 20; delay++) {
                for (int weather = 0; weather <= 2; weather++) {
                    int late = late(kind, delay, weather);
                    HundredGongs x = Due.told("hears 1 0 1;" + KINDS[kind] + " 1 " + delay + ";" + WEATHERS[weather]);
                    Due.is("first", x.first(0, 1), late);
                    Due.is("none next", x.gong(1, 4), NONE);
                    x.strike(0);
                    for (int minute = 0; minute < late; minute++) {
                        Due.is("next", x.gong(1, 4), late - minute);
                        Due.is("to come", x.count(3), 2);
                        Due.is("strikes", x.go(1), minute == late - 1 ? 1 : 0);
                    }
                    Due.is("none next then", x.gong(1, 4), NONE);
                    Due.is("none to come then", x.count(3), 0);
                }
            }
        }
    }

    /** "A STRIKE is heard at once by all by whom it CAN be" */
    private static void heardAtOnceByAll() {
        HundredGongs x = Due.told("cloister 10;hears 1 0 1;hears 2 0 1;hears 3 0 1;hears 4 0 1;hears 5 0 1;hears 6 0 1;hears 7 0 1");
        Due.tell(x, "hears 8 0 1;hears 9 0 1");
        Due.is("nine", x.strike(0), 1022);
        Due.is("nine to come", x.count(3), 1022);
        Due.is("nine in one minute", x.go(1), 9);
        Due.is("ten in all", x.count(4), 10);
        Due.is("none hears 9", x.strike(9), 0);
        Due.is("foretold", x.who(0), 1023);
    }

    /** "a DOUBTER only if it is the second, fourth, .. that he heard" */
    private static void everySecondOfADoubter() {
        HundredGongs x = Due.told("hears 3 0 1;doubter 3 20");
        Due.is("none is heard yet", x.monk(3, 3), 0);
        for (int i = 1; i <= 40; i++) {
            Due.is("by strike " + i, x.strike(0), i % 2 == 0 ? 8 : 0);
            Due.is("left over by 2", x.monk(3, 3), i % 2);
        }
        Due.is("all in one minute: once", x.go(20), 1);
    }

    private static void aDoubterDoesNotCountWhatCannotBeHeard() {
        HundredGongs x = Due.told("hears 1 0 5;doubter 1 1;fog");
        x.strike(0);
        x.strike(0);
        Due.is("nothing is heard in fog", x.monk(1, 3), 0);
        x.strike(1);
        Due.is("nor his own gong", x.monk(1, 3), 0);
        x.turn(CLEAR);
        Due.is("the first", x.strike(0), 0);
        x.turn(FOG);
        Due.is("none in fog", x.strike(0), 0);
        x.turn(FROST);
        Due.is("the second", x.strike(0), 2);
    }

    /** "In each MINUTE all GONGS that are to STRIKE then do so (each once, whoever made them), and are heard." */
    private static void eachOnceWhoeverMadeThem() {
        HundredGongs x = Due.told("hears 1 0 1;plain 1 3;hears 2 1 1;hears 3 1 1;doubter 3 1;frost");
        x.strike(0);
        x.turn(CLEAR);
        x.go(1);
        Due.is("by another strike, to the same minute", x.strike(0), 2);
        Due.is("in that minute", x.gong(1, 4), 3);
        Due.is("not ahead of it", x.go(2), 0);
        Due.is("once", x.go(1), 1);
        Due.is("no more of it to come", x.gong(1, 4), NONE);
        Due.is("heard once", x.monk(3, 3), 1);
        Due.is("by the other one, too", x.count(3), 4);
        HundredGongs two = Due.told("cloister 2;hears 0 1 1;hears 1 0 1");
        two.strike(0);
        two.strike(1);
        Due.is("both in a minute", two.go(1), 2);
        Due.is("each hears the other one", two.count(3), 3);
        Due.is("both in each", two.go(99), 198);
    }

    /** Promise 6: "in how many MINUTES it STRIKES next (4; NONE)" */
    private static void theNextOfSeveralToCome() {
        HundredGongs x = Due.told("hears 1 0 1;sleepy 1 20;frost");
        x.strike(0);
        for (int minute = 1; minute <= 40; minute++) {
            x.go(1);
            x.strike(0);
            Due.is("the one to come first", x.gong(1, 4), 41 - minute);
        }
        for (int minute = 41; minute <= 80; minute++) {
            Due.is("one in each minute", x.go(1), 1);
            Due.is("the next of them", x.gong(1, 4), 1);
        }
        Due.is("the last of them", x.go(1), 1);
        Due.is("none more", x.gong(1, 4), NONE);
        HundredGongs y = Due.told("hears 1 0 1;plain 1 5;frost");
        y.strike(0);
        y.turn(CLEAR);
        y.strike(0);
        Due.is("the sooner of two, though it was made later", y.gong(1, 4), 5);
    }

    /** "WEATHER that turns alters nothing of what is to come already." */
    private static void weatherAltersNothingToCome() {
        for (int before = 0; before <= 2; before++) {
            for (int then = 0; then <= 2; then++) {
                HundredGongs x = Due.told("hears 1 0 4;sleepy 1 5;hears 2 1 5;" + WEATHERS[before]);
                x.strike(0);
                int late = late(2, 5, before);
                Due.is("what it was", x.turn(then), before);
                Due.is("to come as before", x.gong(1, 4), late);
                Due.is("then", x.go(late), 1);
                Due.is("heard by weather as it is by then", x.gong(2, 4), then == FOG ? NONE : late(0, 1, then));
            }
        }
    }

    /** Promise 10: "n MINUTES (1 .. 99) go by" */
    private static void minutesOneToNinetyNine() {
        HundredGongs x = Due.told("cloister 2;hears 0 1 1;hears 1 0 1");
        x.strike(0);
        int minute = 0;
        for (int n = 1; n <= 99; n++) {
            Due.is("one in each minute", x.go(n), n);
            minute += n;
            Due.is("minute", x.count(2), minute);
        }
        Due.is("in all", x.count(4), minute + 1);
        Due.is("of both", x.gong(0, 3) + x.gong(1, 3), minute + 1);
    }

    /** "Behind them it is MINUTE 0, .. all is quiet, no STRIKES have been, DOUBTERS have heard nothing, .." */
    private static void behindATextAllIsQuiet() {
        HundredGongs x = Due.told("cloister 10;hears 9 0 1;doubter 9 5;hears 8 0 1;sleepy 8 20");
        x.strike(0);
        x.strike(0);
        x.strike(0);
        x.go(3);
        x.seen(9, 1);
        x.keep(0);
        x.keep(1);
        Due.tell(x, "alone 0");
        Due.is("minute 0", x.count(2), 0);
        Due.is("quiet", x.count(3), 0);
        Due.is("none next", x.gong(8, 4), NONE);
        Due.is("no strikes", x.count(4), 0);
        Due.is("of none", x.gong(0, 3), 0);
        Due.is("doubters have heard nothing", x.monk(9, 3), 0);
        Due.is("nothing is seen", x.count(5), 0);
        Due.is("nothing is kept in 0", x.back(0), NOT);
        Due.is("nothing is kept in 1", x.back(1), NOT);
        Due.is("quiet stays", x.go(99), 0);
        Due.is("the first, for a doubter", x.strike(0), 256);
        Due.tell(x, "cloister 2");
        Due.tell(x, "cloister 10");
        Due.is("of those that were gone, too", x.count(3), 0);
        Due.is("and their strikes", x.count(4), 0);
    }

    /** Promises 12, 13: "(k 0, 1)"; "It is as it was kept" */
    private static void keptInTwoPlaces() {
        HundredGongs x = Due.told("hears 1 0 1;doubter 1 2;hears 2 0 1;sleepy 2 20;frost");
        Due.is("at minute 0", x.keep(0), 0);
        x.strike(0);
        x.go(41);
        x.turn(FOG);
        Due.is("at minute 41", x.keep(1), 41);
        Due.is("strikes", x.count(4), 2);
        Due.is("to minute 0", x.back(0), 0);
        Due.is("weather", x.count(1), FROST);
        Due.is("strikes", x.count(4), 0);
        Due.is("doubter", x.monk(1, 3), 0);
        Due.is("quiet", x.count(3), 0);
        Due.is("to minute 41", x.back(1), 41);
        Due.is("weather", x.count(1), FOG);
        Due.is("strikes", x.count(4), 2);
        Due.is("of 2", x.gong(2, 3), 1);
        Due.is("doubter", x.monk(1, 3), 1);
        x.back(0);
        x.strike(0);
        Due.is("what is to come is kept", x.keep(0), 0);
        x.go(99);
        x.back(0);
        Due.is("in 41", x.gong(2, 4), 41);
        Due.is("kept again and again", x.back(0), 0);
    }

    /** FIRST: "in how many MINUTES it STRIKES (0 of that itself); none: never" */
    private static void firstZeroOfItself() {
        HundredGongs x = chainOfTen();
        for (int from = 0; from < 10; from++) {
            for (int gong = 0; gong < 10; gong++) {
                Due.is("first", x.first(from, gong), gong < from ? NONE : gong - from);
            }
        }
        allTen(x, "sleepy", 20);
        x.turn(FROST);
        Due.is("the farthest", x.first(0, 9), 9 * 41);
        Due.is("ends", x.ends(0), 9 * 41);
        Due.tell(x, "hears 0 9 1");
        Due.is("itself in a ring", x.first(5, 5), 0);
        Due.is("the one ahead of it in a ring", x.first(5, 4), 9 * 40);
    }

    /** "none: never": a doubter off a ring does strike, when it has come round often enough. */
    private static void firstByALaterRound() {
        HundredGongs x = Due.told("cloister 10;hears 0 1 1;hears 1 0 1;plain 0 3;plain 1 4;hears 2 1 1;hears 3 2 1;hears 4 3 1");
        Due.tell(x, "hears 5 4 1;hears 6 5 1;hears 7 6 1;hears 8 7 1;hears 9 8 1");
        Due.tell(x, "doubter 2 1;doubter 3 1;doubter 4 1;doubter 5 1;doubter 6 1;doubter 7 1;doubter 8 1;doubter 9 1");
        for (int gong = 2; gong <= 9; gong++) {
            int doubters = gong - 1;
            Due.is("by round " + (1 << doubters), x.first(0, gong), 4 + ((1 << doubters) - 1) * 7 + doubters);
            Due.is("apart", x.apart(0, 0, gong), 4 + ((1 << doubters) - 1) * 7 + doubters);
        }
        Due.is("all", x.who(0), 1023);
        Due.is("from a doubter: none but himself", x.who(2), 4);
        x.strike(0);
        x.go(4 + 7);
        Due.is("it comes so in minutes, too", x.gong(2, 4), 1);
    }

    /** "if all were quiet and one GONG were struck by hand now, by WEATHER as it is, DOUBTERS having heard nothing" */
    private static void foretoldAsIfQuiet() {
        HundredGongs x = Due.told("hears 1 0 1;doubter 1 3;hears 2 0 5;plain 2 4");
        x.strike(0);
        Due.is("a doubter has heard one", x.monk(1, 3), 1);
        Due.is("not as foretold", x.who(0), 5);
        Due.is("nor first", x.first(0, 1), NONE);
        Due.is("nor times", x.times(0, 1, 1), 0);
        Due.is("nor odds", x.odds(0, 1, 0, 0), 0);
        Due.is("not sooner by what is to come", x.first(0, 2), 4);
        x.turn(FROST);
        Due.is("as weather is", x.first(0, 2), 5);
        x.turn(FOG);
        Due.is("as weather is", x.who(0), 1);
        Due.is("ends by weather", x.ends(0), 0);
        Due.is("nothing has changed", x.gong(2, 4), 4);
        Due.is("nor of the doubter", x.monk(1, 3), 1);
    }

    /** ENDS: "the MINUTE of the last STRIKE; none: it goes on for ever" */
    private static void goesOnForEverOrEnds() {
        HundredGongs x = Due.told("cloister 2;hears 0 1 9;hears 1 0 9");
        Due.is("two for ever", x.ends(0), NONE);
        Due.is("from the other one", x.ends(1), NONE);
        x.turn(FOG);
        Due.is("not in fog", x.ends(0), 0);
        Due.tell(x, "doubter 1 1");
        Due.is("not by a doubter", x.ends(0), 0);
        Due.is("the doubter himself", x.ends(1), 1);
        Due.tell(x, "deaf 1 1");
        Due.is("not by a deaf one", x.ends(0), 0);
        Due.is("the deaf one himself", x.ends(1), 1);
        HundredGongs y = Due.told("cloister 5;hears 0 1 1;hears 1 0 1;hears 2 1 1;hears 3 2 1;plain 3 20");
        Due.is("off the ring it ends", y.ends(2), 20);
        Due.is("from the ring it does not", y.ends(1), NONE);
    }

    /** ROUND: "by HEARS, CAN and none that DOUBTS one comes from it back to it" */
    private static void roundFromTheLeastToTheGreatest() {
        HundredGongs x = Due.told("cloister 2;hears 0 1 1;hears 1 0 1");
        Due.is("the least", x.round(0), 2);
        Due.is("the least", x.round(1), 2);
        HundredGongs ten = chainOfTen();
        Due.is("not closed", ten.round(0), NONE);
        Due.tell(ten, "hears 0 9 1");
        Due.is("ten minutes", ten.round(0), 10);
        allTen(ten, "sleepy", 20);
        Due.is("in clear", ten.round(9), 400);
        ten.turn(FROST);
        for (int gong = 0; gong < 10; gong++) {
            Due.is("the greatest", ten.round(gong), 410);
        }
        for (String kind : new String[] {"doubter", "deaf"}) {
            for (int broken = 0; broken < 10; broken++) {
                Due.tell(ten, kind + " " + broken + " 20");
                Due.is("broken by one", ten.round(4), NONE);
                Due.tell(ten, "plain " + broken + " 20");
                Due.is("mended", ten.round(4), 10 * 40 - 20 * (broken + 1));
            }
            allTen(ten, "sleepy", 20);
        }
        Due.tell(ten, "hears 3 2 5");
        ten.turn(FOG);
        Due.is("broken by fog", ten.round(0), NONE);
        Due.tell(ten, "hears 3 0 1");
        Due.is("from one that is off the ring", ten.round(1), NONE);
    }

    /** TIMES: "(m 1 .. 64)"; "each time when all is quiet again (DOUBTERS as they are by then)" */
    private static void timesOneToSixtyFour() {
        HundredGongs x = chainOfTen();
        allTen(x, "doubter", 1);
        for (int gong = 0; gong < 10; gong++) {
            Due.is("once", x.times(0, gong, 1), gong == 0 ? 1 : 0);
            Due.is("63 times", x.times(0, gong, 63), 63 >> gong);
            Due.is("64 times", x.times(0, gong, 64), 64 >> gong);
        }
        Due.is("that never strikes", x.times(1, 0, 64), 0);
        HundredGongs two = Due.told("cloister 2;hears 0 1 1;doubter 0 1;hears 1 0 1;doubter 1 1");
        int[] own = {1, 2, 3, 5, 6, 7, 9, 10};
        for (int m = 1; m <= own.length; m++) {
            Due.is("two doubters in a ring", two.times(0, 0, m), own[m - 1]);
            Due.is("the other one of them", two.times(0, 1, m), own[m - 1] / 2);
        }
        Due.tell(two, "plain 0 1");
        Due.is("one doubter in a ring, 64 times", two.times(0, 0, 64), 127);
        Due.is("himself", two.times(1, 1, 64), 127);
        Due.tell(two, "plain 1 1");
        Due.is("for ever once", two.times(0, 0, 1), NONE);
        Due.is("for ever, 64 times", two.times(0, 1, 64), NONE);
        two.turn(FROST);
        Due.is("for ever in frost", two.times(1, 0, 1), NONE);
    }

    private static void timesByWeatherAsItIs() {
        for (int from = 0; from < 3; from++) {
            for (int gong = 0; gong < 3; gong++) {
                if (gong != from) {
                    HundredGongs x = Due.told("hears " + gong + " " + from + " 5");
                    HundredGongs ring = Due.told("hears " + gong + " " + from + " 5;hears " + from + " " + gong + " 4");
                    for (int weather = 0; weather <= 2; weather++) {
                        x.turn(weather);
                        ring.turn(weather);
                        Due.is("times", x.times(from, gong, 2), weather == FOG ? 0 : 2);
                        Due.is("times in a ring", ring.times(from, gong, 2), weather == FOG ? 0 : NONE);
                        Due.is("times of itself", ring.times(from, from, 2), weather == FOG ? 2 : NONE);
                    }
                }
            }
        }
    }

    /** APART: "MINUTES between their FIRST; none: one of them never STRIKES" */
    private static void apartAndNone() {
        HundredGongs x = chainOfTen();
        for (int a = 0; a < 10; a++) {
            for (int b = 0; b < 10; b++) {
                Due.is("apart", x.apart(0, a, b), Math.abs(a - b));
                Due.is("apart from the middle", x.apart(5, a, b), a < 5 || b < 5 ? NONE : Math.abs(a - b));
            }
        }
        HundredGongs two = Due.told("hears 1 0 1;plain 1 7;hears 2 0 1;plain 2 7");
        Due.is("0 apart", two.apart(0, 1, 2), 0);
        two.turn(FROST);
        Due.is("in frost both", two.apart(0, 1, 2), 0);
        Due.is("from where it began", two.apart(0, 0, 2), 8);
    }

    /** CHANGE: "so that they are least APART (fewer than now, or not none)" */
    private static void changeFewerThanNowOrNotNone() {
        HundredGongs x = Due.told("cloister 3;hears 1 0 1;plain 1 2;hears 2 0 1;plain 2 5;plain 0 8");
        Due.is("3 apart now", x.apart(0, 1, 2), 3);
        Due.is("no fewer by any: 3 is not fewer", x.change(0, 1, 2, 0), NONE);
        Due.tell(x, "plain 0 7");
        Due.is("one fewer", x.change(0, 1, 2, 0), 2);
        Due.is("by 0", x.change(0, 1, 2, 1), 0);
        Due.is("and 1", x.change(0, 1, 2, 2), 1);
        Due.tell(x, "plain 0 5");
        Due.is("0 apart", x.change(0, 1, 2, 0), 0);
        Due.tell(x, "plain 1 5");
        Due.is("none is fewer than 0", x.change(0, 1, 2, 0), NONE);
        Due.is("none, the lesser", x.change(0, 1, 2, 1), NONE);
        Due.is("none, the other", x.change(0, 1, 2, 2), NONE);
        Due.tell(x, "deaf 1 5;plain 0 20;plain 2 1");
        Due.is("none now", x.apart(0, 1, 2), NONE);
        Due.is("any is fewer than none", x.change(0, 1, 2, 0), 19);
        Due.tell(x, "deaf 0 5");
        Due.is("none by any", x.change(0, 1, 2, 0), NONE);
        HundredGongs two = Due.told("cloister 2;hears 1 0 1;sleepy 1 9;sleepy 0 8");
        Due.is("one pair only", two.change(0, 0, 1, 0), 16);
        Due.is("of 0", two.change(0, 0, 1, 1), 0);
        Due.is("and 1", two.change(0, 0, 1, 2), 1);
        Due.is("of one: 0 now", two.change(0, 1, 1, 0), NONE);
        Due.tell(two, "doubter 1 1");
        Due.is("of one: none now", two.change(0, 1, 1, 0), 0);
        Due.is("nothing is changed by it", two.monk(1, 0), 3);
    }

    /** CHANGE: "of several the first pair (lesser, other)" */
    private static void changeTheFirstPair() {
        HundredGongs x = Due.told("cloister 10;hears 8 0 1;plain 8 9;hears 9 0 1;plain 9 1;plain 4 9;plain 6 9");
        Due.is("0 apart", x.change(0, 8, 9, 0), 0);
        Due.is("the first lesser: all but 4 and 6 are of delay 1", x.change(0, 8, 9, 1), 0);
        Due.is("with 8", x.change(0, 8, 9, 2), 8);
        Due.tell(x, "plain 0 20;plain 1 20;plain 2 20;plain 3 20;plain 5 20;plain 7 20");
        Due.is("the lesser is 4", x.change(0, 8, 9, 1), 4);
        Due.is("with 9", x.change(0, 8, 9, 2), 9);
        Due.tell(x, "plain 4 1;plain 6 9");
        Due.is("4 with 8 ahead of 6 with 9", x.change(0, 8, 9, 2), 8);
        Due.tell(x, "plain 4 20;plain 6 20;plain 8 1;plain 9 2;plain 7 2");
        Due.is("the last but one pair", x.change(0, 8, 9, 1), 7);
        Due.is("with 8", x.change(0, 8, 9, 2), 8);
        Due.tell(x, "plain 7 3;deaf 8 1;hears 8 0 5;hears 9 0 4;fog");
        Due.is("not over a span in fog", x.change(0, 8, 9, 0), NONE);
    }

    /** OVER: "over both SPANS together" */
    private static void overBothSpansTogether() {
        for (int span = 1; span <= 9; span++) {
            for (int other = 1; other <= 9; other++) {
                HundredGongs x = Due.told("hears 1 0 " + span + ";deaf 1 1;hears 2 1 " + other);
                for (int weather = 0; weather <= 2; weather++) {
                    x.turn(weather);
                    boolean can = span + other <= (weather == FOG ? 4 : 9);
                    Due.is("over " + span + " and " + other, x.over(0, 0), can ? 1 : NONE);
                    Due.is("many then", x.over(0, 1), can ? 2 : NONE);
                }
                Due.is("nothing is changed by it", x.gong(2, 1), other);
            }
        }
    }

    /** OVER: "HEARS the one that it HEARS instead, if there is one and it is not itself" */
    private static void overIfThereIsOneAndNotItself() {
        HundredGongs x = Due.told("deaf 1 1;hears 2 1 1");
        for (int from = 0; from < 4; from++) {
            Due.is("there is none", x.over(from, 0), NONE);
            Due.is("there is none", x.over(from, 1), NONE);
        }
        Due.tell(x, "hears 1 2 1");
        for (int from = 0; from < 4; from++) {
            Due.is("it is itself", x.over(from, 0), NONE);
        }
        Due.tell(x, "hears 3 2 1;doubter 3 1");
        Due.is("it is itself, and does not go round by itself for ever", x.over(2, 0), NONE);
        Due.tell(x, "hears 3 1 1;plain 3 1");
        Due.is("another one hears it", x.over(2, 0), 1);
        Due.is("two then", x.over(2, 1), 2);
        Due.is("none by the deaf one itself", x.over(1, 0), NONE);
        Due.is("no deaf one", new HundredGongs().over(0, 0), NONE);
    }

    /** OVER: "the GONG with a DEAF MONK" */
    private static void overADeafOneOnly() {
        HundredGongs x = Due.told("hears 1 0 1;doubter 1 1;hears 2 1 1");
        Due.is("a doubter is not heard over", x.over(0, 0), NONE);
        Due.is("how many then", x.over(0, 1), NONE);
        Due.tell(x, "deaf 1 1");
        Due.is("a deaf one is", x.over(0, 0), 1);
    }

    /** OVER: "so that most are in WHO (more than now); of several the least; none" */
    private static void overMoreThanNowAndTheLeast() {
        HundredGongs x = Due.told("cloister 10;deaf 3 1;hears 3 0 1;deaf 6 1;hears 6 0 1;hears 7 6 1;hears 8 3 1");
        Due.is("of two the least", x.over(0, 0), 3);
        Due.is("two then", x.over(0, 1), 2);
        Due.tell(x, "hears 9 6 1");
        Due.is("the one of more", x.over(0, 0), 6);
        Due.is("three then", x.over(0, 1), 3);
        Due.tell(x, "hears 1 0 1;hears 2 0 1");
        Due.is("with those of now", x.over(0, 1), 5);
        Due.tell(x, "doubter 7 1;doubter 8 1;doubter 9 1");
        Due.is("no more than now", x.over(0, 0), NONE);
        Due.tell(x, "alone 7;alone 8;alone 9;plain 8 1;hears 0 8 1;hears 8 3 1;hears 9 0 1");
        Due.is("a ring then, by which a doubter strikes", x.over(0, 0), 3);
        Due.is("he, too", x.over(0, 1), 5);
        Due.tell(x, "cloister 10;deaf 9 1;hears 9 8 1;hears 0 9 1");
        Due.is("the last one is deaf, the first one hears over", x.over(8, 0), 9);
        Due.tell(x, "cloister 10;deaf 0 1;hears 0 8 1;hears 9 0 1");
        Due.is("the first one is deaf", x.over(8, 0), 0);
        Due.is("two then", x.over(8, 1), 2);
    }

    /** ODDS: "sleeps by p tenths (0 .. 10), by himself; 0, if it never STRIKES"; "in lowest terms" */
    private static void oddsFromNoneToAll() {
        int[] above = {1, 9, 4, 7, 3, 1, 2, 3, 1, 1, 0};
        int[] below = {1, 10, 5, 10, 5, 2, 5, 10, 5, 10, 1};
        HundredGongs x = Due.told("hears 1 0 1;hears 2 1 1;deaf 2 1");
        for (int p = 0; p <= 10; p++) {
            Due.is("one on the way, above", x.odds(0, 1, p, 0), above[p]);
            Due.is("one on the way, below", x.odds(0, 1, p, 1), below[p]);
            Due.is("none on the way, above", x.odds(1, 1, p, 0), 1);
            Due.is("none on the way, below", x.odds(1, 1, p, 1), 1);
            Due.is("never, above", x.odds(0, 2, p, 0), 0);
            Due.is("never, below", x.odds(0, 2, p, 1), 1);
        }
    }

    private static void oddsOfTheLongestWay() {
        HundredGongs x = chainOfTen();
        Due.is("nine by nine tenths", x.odds(0, 9, 1, 0), 387420489);
        Due.is("below", x.odds(0, 9, 1, 1), 1000000000);
        Due.is("by one half", x.odds(0, 9, 5, 1), 512);
        Due.is("by one fifth", x.odds(0, 9, 8, 1), 1953125);
        Due.is("by four fifths", x.odds(0, 9, 2, 0), 262144);
        Due.is("by none", x.odds(0, 9, 10, 0), 0);
        Due.is("by none, below", x.odds(0, 9, 10, 1), 1);
        Due.is("by all", x.odds(0, 9, 0, 0), 1);
        Due.tell(x, "hears 0 9 1");
        Due.is("in a ring, the monk of the one that is struck is not on it", x.odds(5, 4, 9, 1), 1000000000);
        Due.is("of itself in a ring", x.odds(5, 5, 9, 1), 1);
    }

    /** "SEEN, 8 at most: a GONG STRUCK (1) or not (0)" */
    private static void seenEightAtMost() {
        HundredGongs x = Due.told("cloister 10;hears 9 0 1");
        for (int i = 1; i <= 8; i++) {
            Due.is("seen", x.seen(10 - i, i == 1 ? 1 : 0), i);
            Due.is("count", x.count(5), i);
        }
        Due.is("the ninth", x.seen(0, 0), Due.FULL);
        Due.is("all eight are so", x.asleep(0, 1), 1);
        Due.is("had any but 9 slept", x.asleep(0, 0), 510);
        Due.is("forget eight", x.forget(), 8);
        Due.is("forget none", x.forget(), 0);
        for (int i = 1; i <= 7; i++) {
            x.seen(1, 0);
        }
        Due.is("the eighth counts", x.seen(9, 0), 8);
        Due.is("the eighth counts", x.asleep(0, 0), 512);
        Due.is("and is not so, if none slept", x.asleep(0, 1), 0);
    }

    /** ASLEEP: "MONKS (not of the GONG that is struck) .. by bits; whether it is so, if none slept" */
    private static void asleepByBits() {
        HundredGongs x = chainOfTen();
        for (int from = 0; from < 10; from++) {
            Due.is("nothing seen: all but one", x.asleep(from, 0), 1023 ^ 1 << from);
            Due.is("and none", x.asleep(from, 1), 1);
        }
        for (int gong = 0; gong < 10; gong++) {
            x.forget();
            x.seen(gong, 0);
            Due.is("one on the way slept", x.asleep(0, 0), (1 << gong + 1) - 2);
            Due.is("someone did", x.asleep(0, 1), 0);
            x.forget();
            x.seen(gong, 1);
            Due.is("none on the way slept", x.asleep(0, 0), 1023 & -1 << gong + 1);
            Due.is("none may have", x.asleep(0, 1), 1);
            x.seen(gong, 0);
            Due.is("both cannot be", x.asleep(0, 0), 0);
            Due.is("both cannot be", x.asleep(0, 1), 0);
        }
    }

    /** Promise 26 */
    private static void countOfEach() {
        HundredGongs x = Due.told("cloister 10;hears 0 9 1;hears 9 0 1;frost");
        x.strike(0);
        x.strike(9);
        Due.is("the least and the greatest, by bits", x.count(3), 513);
        x.strike(9);
        x.go(2);
        x.seen(4, 0);
        x.write(-1L, 8);
        int[] due = {10, 2, 2, 513, 5, 1, 8};
        for (int what = 0; what <= 6; what++) {
            Due.is("count " + what, x.count(what), due[what]);
        }
    }
}
