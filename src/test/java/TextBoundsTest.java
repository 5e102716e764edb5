import java.nio.charset.StandardCharsets;

/** The bounds that the document's terms name for THE TEXT and its FAULT, a sentence at a time. */
public final class TextBoundsTest {
    private static final int NONE = Due.NONE, UNKNOWN = Due.UNKNOWN, NOT = Due.NOT, FULL = Due.FULL;
    private static final String[] KINDS = {"plain", "deaf", "sleepy", "doubter"};
    private static final String[] WEATHERS = {"clear", "fog", "frost"};
    /** 2 and a power of two behind which a byte, a short, an int, a long begins anew. */
    private static final String[] TWO_WRAPPED_AROUND = {"258", "65538", "4294967298", "18446744073709551618"};

    public static void main(String[] args) {
        gongsAreTwoToTen();
        eachHearsOneOther();
        spanIsOneToNine();
        delayIsOneToTwenty();
        numbersHaveOneOrTwoDigits();
        numbersDoNotWrapAround();
        bytesAreTwoHundredAtMost();
        aTokenUpToTheLastByte();
        linesAreTwelveAtMost();
        anEmptyTextOrLineIsAFault();
        theEndThatComesTooSoon();
        bytesThatWereErasedAreGone();
        anyByteAheadOfAWord();
        anyByteBehindAWord();
        anyByteBehindAWordWithNumbers();
        anyByteForANumber();
        anyByteBehindANumber();
        wordsAsWrittenHere();
        gongsThatThereAreBehindTheLinesAhead();
        theFirstOfSeveralFaults();
        faultChangesNothing();
        linesAreDoneInTheirOrder();
        cloisterTellsAllElseAsAtFirst();
        weatherAsItWasToldLast();
        Due.end("TextBoundsTest");
    }

    /** "GONGS are 0 .. n less 1 (n 2 .. 10; 4 at first)" */
    private static void gongsAreTwoToTen() {
        Due.is("4 at first", new HundredGongs().count(0), 4);
        for (int n = 0; n <= 99; n++) {
            Due.faultAt("cloister " + n, n >= 2 && n <= 10 ? NONE : 9);
        }
        for (int n = 2; n <= 10; n++) {
            HundredGongs x = Due.told("cloister " + n);
            Due.is("gongs", x.count(0), n);
            Due.is("the first", x.gong(0, 0), NONE);
            Due.is("n less 1", x.gong(n - 1, 0), NONE);
            Due.is("n", x.gong(n, 0), UNKNOWN);
            Due.is("less than 0", x.gong(-1, 0), UNKNOWN);
        }
    }

    /** "Each HEARS one other"; "I HEARS J, not I (else a FAULT at J)" */
    private static void eachHearsOneOther() {
        for (int i = 0; i < 10; i++) {
            HundredGongs x = Due.told("cloister 10");
            for (int j = 0; j < 10; j++) {
                String line = "hears " + i + " " + j + " 1";
                Due.write(x, line);
                Due.is("fault of " + line, x.fault(), i == j ? 8 : NONE);
                Due.is("cloister of " + line, x.cloister(), i == j ? NOT : 1);
                Due.is("hears", x.gong(i, 0), i == j ? (j == 0 ? NONE : j - 1) : j);
                x.erase();
            }
        }
        Due.faultAt("hears 0 00 1", 8);
        Due.faultAt("hears 00 0 1", 9);
        Due.faultAt("hears 1 1 0", 8);
    }

    /** "over a SPAN of 1 .. 9" */
    private static void spanIsOneToNine() {
        for (int span = 0; span <= 99; span++) {
            Due.faultAt("hears 1 0 " + span, span >= 1 && span <= 9 ? NONE : 10);
        }
        for (int span = 1; span <= 9; span++) {
            Due.is("span", Due.told("hears 1 0 " + span).gong(1, 1), span);
            Due.is("span of two digits", Due.told("hears 1 0 0" + span).gong(1, 1), span);
        }
        Due.faultAt("hears 1 0 00", 10);
    }

    /** "with a DELAY of 1 .. 20 MINUTES (1 at first)" */
    private static void delayIsOneToTwenty() {
        Due.is("1 at first", new HundredGongs().monk(3, 1), 1);
        for (int kind = 0; kind < KINDS.length; kind++) {
            int place = KINDS[kind].length() + 3;
            for (int delay = 0; delay <= 99; delay++) {
                Due.faultAt(KINDS[kind] + " 0 " + delay, delay >= 1 && delay <= 20 ? NONE : place);
            }
            for (int delay = 1; delay <= 20; delay++) {
                HundredGongs x = Due.told(KINDS[kind] + " 0 " + delay);
                Due.is("delay", x.monk(0, 1), delay);
                Due.is("kind", x.monk(0, 0), kind);
            }
            Due.faultAt(KINDS[kind] + " 0 00", place);
        }
    }

    /** "numbers of 1 or 2 digits"; "(a number out of its bounds, of more digits, also)" */
    private static void numbersHaveOneOrTwoDigits() {
        Due.faultAt("cloister 02", NONE);
        Due.faultAt("cloister 002", 9);
        Due.faultAt("hears 01 00 01", NONE);
        Due.faultAt("hears 001 0 1", 6);
        Due.faultAt("hears 1 000 1", 8);
        Due.faultAt("hears 1 0 001", 10);
        Due.faultAt("alone 03", NONE);
        Due.faultAt("alone 003", 6);
        for (String kind : KINDS) {
            Due.faultAt(kind + " 01 01", NONE);
            Due.faultAt(kind + " 001 1", kind.length() + 1);
            Due.faultAt(kind + " 1 001", kind.length() + 3);
        }
    }

    private static void numbersDoNotWrapAround() {
        for (String two : TWO_WRAPPED_AROUND) {
            Due.faultAt("cloister " + two, 9);
            Due.faultAt("hears " + two + " 0 1", 6);
            Due.faultAt("hears 1 " + two + " 1", 8);
            Due.faultAt("hears 1 0 " + two, 10);
            Due.faultAt("alone " + two, 6);
            for (String kind : KINDS) {
                Due.faultAt(kind + " " + two + " 1", kind.length() + 1);
                Due.faultAt(kind + " 1 " + two, kind.length() + 3);
            }
        }
        Due.faultAt("cloister " + "0".repeat(190) + "2", 9);
    }

    /** "a row of bytes, 200 at most" */
    private static void bytesAreTwoHundredAtMost() {
        for (int length = 192; length <= 200; length++) {
            for (int n = 1; n <= 8; n++) {
                HundredGongs x = new HundredGongs();
                Due.write(x, " ".repeat(length - 3) + "fog");
                boolean room = length + n <= 200;
                Due.is(n + " more than " + length, x.write(0x2020202020202020L, n), room ? length + n : FULL);
                Due.is("bytes then", x.count(6), room ? length + n : length);
                Due.is("the text stands", x.fault(), NONE);
            }
        }
        StringBuilder twelve = new StringBuilder();
        for (int i = 1; i < 12; i++) {
            twelve.append("alone  0").append(i % 4).append("     ;");
        }
        twelve.append(" ".repeat(200 - twelve.length() - 5)).append("frost");
        HundredGongs x = new HundredGongs();
        Due.write(x, twelve.toString());
        Due.is("200 bytes", x.count(6), 200);
        Due.is("of twelve lines stand", x.fault(), NONE);
        Due.is("and are done", x.cloister(), 12);
        Due.is("up to the last", x.count(1), 2);
    }

    private static void aTokenUpToTheLastByte() {
        Due.faultAt("f".repeat(200), 0);
        Due.faultAt(" ".repeat(150) + "f".repeat(50), 150);
        Due.faultAt(" ".repeat(194) + "cloist", 194);
        Due.faultAt(" ".repeat(192) + "cloister", 200);
        Due.faultAt(" ".repeat(190) + "cloister 2", NONE);
        Due.faultAt(" ".repeat(190) + "cloister12", 198);
        Due.faultAt(" ".repeat(195) + "frost", NONE);
        Due.faultAt(" ".repeat(196) + "fog;", 200);
        Due.faultAt(" ".repeat(196) + "fog!", 199);
        Due.faultAt("fog" + " ".repeat(197), NONE);
        Due.faultAt(" ".repeat(200), 200);
    }

    /** "LINES with ; (59) between, 12 at most" */
    private static void linesAreTwelveAtMost() {
        for (int lines = 1; lines <= 30; lines++) {
            StringBuilder text = new StringBuilder("fog");
            for (int i = 1; i < lines; i++) {
                text.append(";fog");
            }
            Due.faultAt(text.toString(), lines <= 12 ? NONE : 47);
            HundredGongs x = new HundredGongs();
            Due.write(x, text.toString());
            Due.is("lines done", x.cloister(), lines <= 12 ? lines : NOT);
        }
    }

    private static void anEmptyTextOrLineIsAFault() {
        HundredGongs x = new HundredGongs();
        Due.is("fault of an empty text", x.fault(), 0);
        Due.is("an empty text is not done", x.cloister(), NOT);
        Due.is("nothing to erase", x.erase(), 0);
        Due.faultAt(" ", 1);
        Due.faultAt(";", 0);
        Due.faultAt(" ;", 1);
        Due.faultAt("fog;", 4);
        Due.faultAt("fog; ", 5);
        Due.faultAt("fog;;fog", 4);
        Due.faultAt("fog; ;fog", 5);
        Due.faultAt(";fog", 0);
    }

    /** "or at the end, if it comes too soon": each line, cut behind each of its bytes. */
    private static void theEndThatComesTooSoon() {
        cut("cloister 10", 0, 0, 0, 0, 0, 0, 0, 0, 8, 9, 9, NONE);
        cut("hears 1 0 9", 0, 0, 0, 0, 0, 5, 6, 7, 8, 9, 10, NONE);
        cut("hears 01 0 09", 0, 0, 0, 0, 0, 5, 6, 7, 8, 9, 10, 11, 11, NONE);
        cut("alone 3", 0, 0, 0, 0, 0, 5, 6, NONE);
        cut("plain 3 20", 0, 0, 0, 0, 0, 5, 6, 7, 8, NONE, NONE);
        cut("deaf 3 20", 0, 0, 0, 0, 4, 5, 6, 7, NONE, NONE);
        cut("sleepy 3 20", 0, 0, 0, 0, 0, 0, 6, 7, 8, 9, NONE, NONE);
        cut("doubter 3 20", 0, 0, 0, 0, 0, 0, 0, 7, 8, 9, 10, NONE, NONE);
        cut("clear", 0, 0, 0, 0, 0, NONE);
        cut("fog", 0, 0, 0, NONE);
        cut("frost", 0, 0, 0, 0, 0, NONE);
    }

    private static void cut(String line, int... places) {
        Due.is("places of " + line, places.length, line.length() + 1);
        for (int length = 0; length <= line.length(); length++) {
            String part = line.substring(0, length);
            Due.faultAt(part, places[length]);
            Due.faultAt("frost;" + part, places[length] == NONE ? NONE : places[length] + 6);
            HundredGongs x = new HundredGongs();
            Due.write(x, part);
            Due.is("cloister of '" + part + "'", x.cloister(), places[length] == NONE ? 1 : NOT);
        }
    }

    /** "THE TEXT is empty": what stood there is not read behind the end of a shorter one. */
    private static void bytesThatWereErasedAreGone() {
        String[] lines = {"cloister 10", "hears 1 0 9", "alone 3", "plain 3 2", "deaf 3 2", "sleepy 3 2", "doubter 3 2", "frost"};
        for (String line : lines) {
            for (int length = 0; length < line.length(); length++) {
                String part = line.substring(0, length);
                HundredGongs fresh = new HundredGongs();
                Due.write(fresh, part);
                HundredGongs erased = new HundredGongs();
                Due.write(erased, line + ";" + line);
                erased.erase();
                Due.write(erased, part);
                Due.is("'" + part + "' behind an erased text", erased.fault(), fresh.fault());
                HundredGongs done = new HundredGongs();
                Due.tell(done, line);
                Due.tell(done, "cloister 4");
                Due.tell(done, line + ";cloister 4");
                Due.write(done, part);
                Due.is("'" + part + "' behind a text that was done", done.fault(), fresh.fault());
            }
        }
        HundredGongs x = new HundredGongs();
        Due.write(x, "alone 3");
        x.erase();
        Due.write(x, "alone ");
        Due.is("the 3 is gone", x.fault(), 6);
        Due.is("and nothing is done", x.cloister(), NOT);
    }

    private static boolean isLetter(int value) {
        return value >= 97 && value <= 122;
    }

    private static boolean isDigit(int value) {
        return value >= 48 && value <= 57;
    }

    private static String sign(int value) {
        return new String(new byte[] {(byte) value}, StandardCharsets.ISO_8859_1);
    }

    /** "(a row of small letters, a row of digits, any other byte)" */
    private static void anyByteAheadOfAWord() {
        for (int value = 0; value <= 255; value++) {
            Due.faultAt(sign(value) + "fog", value == 32 ? NONE : 0);
            Due.faultAt("fog;" + sign(value) + "fog", value == 32 ? NONE : 4);
        }
    }

    private static void anyByteBehindAWord() {
        for (int value = 0; value <= 255; value++) {
            Due.faultAt("fog" + sign(value), value == 32 ? NONE : isLetter(value) ? 0 : value == 59 ? 4 : 3);
            Due.faultAt("fog" + sign(value) + "clear", value == 59 ? NONE : value == 32 ? 4 : isLetter(value) ? 0 : 3);
            Due.faultAt("fog " + sign(value), value == 32 ? NONE : value == 59 ? 5 : 4);
        }
    }

    private static void anyByteBehindAWordWithNumbers() {
        for (int value = 0; value <= 255; value++) {
            int want = value == 32 || value == 48 ? NONE : isLetter(value) ? 0 : 8;
            Due.faultAt("cloister" + sign(value) + "4", want);
            Due.faultAt("alone" + sign(value), isLetter(value) ? 0 : value == 32 ? 6 : value >= 48 && value < 52 ? NONE : 5);
        }
    }

    private static void anyByteForANumber() {
        for (int value = 0; value <= 255; value++) {
            boolean blank = value == 32;
            Due.faultAt("alone " + sign(value), blank ? 7 : value >= 48 && value < 52 ? NONE : 6);
            Due.faultAt("hears 1 " + sign(value) + " 1", blank ? 10 : value >= 48 && value < 52 && value != 49 ? NONE : 8);
            Due.faultAt("hears 1 0 " + sign(value), blank ? 11 : isDigit(value) && value > 48 ? NONE : 10);
            Due.faultAt("plain 1 " + sign(value), blank ? 9 : isDigit(value) && value > 48 ? NONE : 8);
        }
    }

    private static void anyByteBehindANumber() {
        for (int value = 0; value <= 255; value++) {
            int behind = value == 32 ? NONE : value == 59 ? 9 : 8;
            Due.faultAt("alone 00" + sign(value), isDigit(value) ? 6 : behind);
            Due.faultAt("alone 0 " + sign(value), behind);
            Due.faultAt("alone 0" + sign(value) + "fog", value == 59 ? NONE : value == 32 ? 8 : isDigit(value) ? value < 52 ? 8 : 6 : 7);
        }
    }

    /** "(As written here, without points ...; small letters a .. z)" */
    private static void wordsAsWrittenHere() {
        String[] lines = {"cloister 4", "hears 1 0 1", "alone 1", "plain 1 1", "deaf 1 1", "sleepy 1 1", "doubter 1 1", "clear", "fog", "frost"};
        for (String line : lines) {
            String word = line.split(" ")[0];
            Due.faultAt(line, NONE);
            Due.faultAt(line.toUpperCase(), 0);
            Due.faultAt(line.substring(1), 0);
            Due.faultAt(line.replace(word, word + "s"), 0);
            Due.faultAt(line.replace(word, word.substring(0, word.length() - 1)), 0);
            Due.faultAt(line.replace(word, word.substring(0, word.length() - 1) + "q"), 0);
            Due.faultAt(line.replace(word, "q" + word.substring(1)), 0);
            Due.faultAt(line + ".", line.length());
            Due.faultAt(line + " 1", line.length() + 1);
            Due.faultAt(line + " " + word, line.length() + 1);
        }
        Due.faultAt("monk 1 1", 0);
        Due.faultAt("rain", 0);
    }

    /** "GONGS that there are behind the LINES ahead" */
    private static void gongsThatThereAreBehindTheLinesAhead() {
        for (int n = 2; n <= 10; n++) {
            String ahead = "cloister " + n + ";";
            int at = ahead.length();
            for (int gong : new int[] {n - 1, n, n + 1, 99}) {
                boolean there = gong == n - 1;
                Due.faultAt(ahead + "alone " + gong, there ? NONE : at + 6);
                Due.faultAt(ahead + "hears " + gong + " 0 1", there ? NONE : at + 6);
                Due.faultAt(ahead + "hears 0 " + gong + " 1", there ? NONE : at + 8);
                for (String kind : KINDS) {
                    Due.faultAt(ahead + kind + " " + gong + " 1", there ? NONE : at + kind.length() + 1);
                }
            }
        }
        Due.faultAt("alone 4;cloister 5", 6);
        Due.faultAt("alone 3;cloister 2;alone 1", NONE);
        Due.faultAt("alone 3;cloister 2;alone 2", 25);
        Due.faultAt("cloister 10;cloister 2;alone 9", 29);
        HundredGongs x = Due.told("cloister 9");
        Due.write(x, "alone 8");
        Due.is("of a text before", x.fault(), NONE);
        x.erase();
        Due.write(x, "alone 9");
        Due.is("not there behind a text before", x.fault(), 6);
    }

    /** "read to their first fault" */
    private static void theFirstOfSeveralFaults() {
        Due.faultAt("hears 4 4 0", 6);
        Due.faultAt("hears 1 4 0", 8);
        Due.faultAt("hears 1 1 10", 8);
        Due.faultAt("plain 4 21", 6);
        Due.faultAt("fog;cloister 1;x", 13);
        Due.faultAt("x;cloister 1", 0);
        Due.faultAt("fog.x;", 3);
    }

    private static void faultChangesNothing() {
        HundredGongs x = Due.told("hears 1 0 1;plain 1 3;frost");
        x.strike(0);
        x.keep(0);
        x.seen(1, 1);
        Due.write(x, "cloister 2;fog;deaf 1 9");
        Due.refused(x, "fault", x::fault, NONE);
        Due.is("text stays", x.count(6), 23);
        Due.is("what is kept stays", x.back(0), 0);
        Due.is("the text is still to be done", x.cloister(), 3);
        Due.is("two gongs", x.count(0), 2);
        Due.write(x, "cloister 10;clear;alone");
        Due.refused(x, "fault", x::fault, 23);
        Due.write(x, " 9");
        Due.is("the rest comes later", x.cloister(), 3);
    }

    /** "LINES are done in their order" */
    private static void linesAreDoneInTheirOrder() {
        HundredGongs x = Due.told("hears 1 0 1;hears 1 2 9;plain 1 5;deaf 1 20;fog;frost");
        Due.is("hears the later", x.gong(1, 0), 2);
        Due.is("over the later", x.gong(1, 1), 9);
        Due.is("kind of the later", x.monk(1, 0), 1);
        Due.is("delay of the later", x.monk(1, 1), 20);
        Due.is("weather of the later", x.count(1), 2);
        Due.is("hears, then alone", Due.told("hears 1 0 1;alone 1").gong(1, 0), NONE);
        Due.is("no span then", Due.told("hears 1 0 1;alone 1").gong(1, 1), 0);
        Due.is("alone, then hears", Due.told("alone 1;hears 1 0 1").gong(1, 0), 0);
        Due.is("alone leaves the monk", Due.told("sleepy 1 7;alone 1").monk(1, 2), 14);
        Due.is("a monk leaves whom he hears", Due.told("hears 1 2 7;sleepy 1 7").gong(1, 0), 2);
        Due.is("another one stays", Due.told("hears 1 2 7;alone 2;sleepy 2 2").gong(1, 1), 7);
    }

    /** "cloister: N GONGS, all else as at first" */
    private static void cloisterTellsAllElseAsAtFirst() {
        for (int n = 2; n <= 10; n++) {
            HundredGongs x = Due.told("cloister 10;hears 9 0 9;sleepy 9 20;hears 0 1 5;doubter 0 3;deaf 1 4;frost");
            Due.tell(x, "cloister " + n);
            Due.tell(x, "frost");
            Due.is("weather is told", x.count(1), 2);
            Due.tell(x, "fog;cloister " + n);
            for (int gong = 0; gong < n; gong++) {
                Due.is("hears", x.gong(gong, 0), NONE);
                Due.is("span", x.gong(gong, 1), 0);
                Due.is("kind", x.monk(gong, 0), 0);
                Due.is("delay", x.monk(gong, 1), 1);
            }
            Due.is("weather", x.count(1), 0);
            Due.tell(x, "cloister 10");
            Due.is("none of the tenth is left", x.gong(9, 0), NONE);
            Due.is("nor of its monk", x.monk(9, 0), 0);
        }
    }

    /** "WEATHER as it was told last (in this text or one before; CLEAR at first, behind cloister)" */
    private static void weatherAsItWasToldLast() {
        Due.is("clear at first", Due.told("alone 0").count(1), 0);
        for (int told = 0; told < 3; told++) {
            for (int turned = 0; turned < 3; turned++) {
                HundredGongs x = Due.told(WEATHERS[(told + 1) % 3] + ";" + WEATHERS[told]);
                Due.is("in this text", x.count(1), told);
                x.turn(turned);
                Due.tell(x, "alone 0");
                Due.is("in one before, though it turned", x.count(1), told);
                x.keep(1);
                x.turn(turned);
                x.back(1);
                Due.tell(x, "plain 0 1");
                Due.is("in one still before", x.count(1), told);
                Due.write(x, WEATHERS[(told + 2) % 3] + ";x");
                Due.is("refused", x.cloister(), NOT);
                x.erase();
                Due.tell(x, "plain 0 1");
                Due.is("not in one that was refused", x.count(1), told);
                Due.tell(x, WEATHERS[told] + ";cloister 2");
                Due.is("clear behind cloister", x.count(1), 0);
                x.turn(turned);
                Due.tell(x, "alone 0");
                Due.is("and in the next", x.count(1), 0);
                Due.tell(x, "cloister 2;" + WEATHERS[told]);
                Due.is("told behind cloister", x.count(1), told);
            }
        }
    }
}
