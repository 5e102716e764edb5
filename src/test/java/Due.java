import java.nio.charset.StandardCharsets;
import java.util.function.IntSupplier;

/** What the project's tests share: answers that are due, texts that are told, and a look at all that can be seen. */
final class Due {
    static final int NONE = -1, UNKNOWN = -2, OUTSIDE = -3, NOT = -4, FULL = -5;

    private static int wrong = 0;
    private static int asked = 0;

    private Due() {
    }

    static void is(String call, long got, long want) {
        asked++;
        if (got != want) {
            wrong++;
            System.out.println(call + " answered " + got + ", due is " + want);
        }
    }

    static void isTrue(String what, boolean holds) {
        is(what, holds ? 1 : 0, 1);
    }

    static void write(HundredGongs x, String text) {
        byte[] bytes = text.getBytes(StandardCharsets.ISO_8859_1);
        int had = x.count(6);
        for (int at = 0; at < bytes.length; at += 8) {
            int n = Math.min(8, bytes.length - at);
            is("write of " + text, x.write(packed(bytes, at, n), n), had + at + n);
        }
    }

    static long packed(byte[] bytes, int at, int n) {
        long value = 0;
        for (int i = 0; i < n; i++) {
            value |= (bytes[at + i] & 255L) << (8 * i);
        }
        return value;
    }

    static void tell(HundredGongs x, String text) {
        write(x, text);
        is("cloister of " + text, x.cloister(), text.split(";").length);
    }

    static HundredGongs told(String text) {
        HundredGongs x = new HundredGongs();
        tell(x, text);
        return x;
    }

    static void faultAt(String text, int place) {
        HundredGongs x = new HundredGongs();
        write(x, text);
        is("fault of '" + text + "'", x.fault(), place);
    }

    /** A refusal answers so, and nothing that can be seen is another then. */
    static void refused(HundredGongs x, String call, IntSupplier doing, int want) {
        String before = look(x);
        is(call, doing.getAsInt(), want);
        String after = look(x);
        isTrue(call + " changes nothing: " + before + " / " + after, before.equals(after));
    }

    static String look(HundredGongs x) {
        StringBuilder all = new StringBuilder();
        for (int what = 0; what <= 6; what++) {
            all.append(x.count(what)).append(' ');
        }
        all.append("fault ").append(x.fault());
        for (int gong = 0; gong < x.count(0); gong++) {
            all.append(" gong ").append(gong);
            for (int what = 0; what <= 4; what++) {
                all.append(' ').append(x.gong(gong, what));
            }
            for (int what = 0; what <= 3; what++) {
                all.append(' ').append(x.monk(gong, what));
            }
            all.append(' ').append(x.asleep(gong, 0)).append(' ').append(x.asleep(gong, 1));
        }
        return all.toString();
    }

    static void end(String name) {
        System.out.println(name + ": " + asked + " answers, " + wrong + " not as due");
        if (wrong != 0 || asked == 0) {
            System.exit(1);
        }
    }
}
