import java.nio.charset.StandardCharsets;
import java.util.Random;

/** Runs of up to 512 calls, drawn by fixed seeds, on the class and on the model: every answer must be the same. */
public final class ModelTest {
    private static final int RUNS = 4000, MOST_CALLS = 512;
    private static final String[] KINDS = {"plain", "deaf", "sleepy", "doubter"};
    private static final String[] WEATHERS = {"clear", "fog", "frost"};
    private static final int[] ODD = {-1, -2, 10, 11, 100, Integer.MIN_VALUE, Integer.MAX_VALUE, 65536, 256};

    private final Random random;
    private final HundredGongs x = new HundredGongs();
    private final Model model = new Model();
    private final int run;
    private int calls = 0;
    private int gongs = 4;

    private ModelTest(int run) {
        this.run = run;
        this.random = new Random(7919L * run + 1);
    }

    public static void main(String[] args) {
        for (int run = 0; run < RUNS; run++) {
            new ModelTest(run).play();
        }
        Due.end("ModelTest");
    }

    private void play() {
        int most = random.nextInt(4) == 0 ? MOST_CALLS : 120;
        while (calls + 30 < most) {
            int draw = random.nextInt(100);
            if (draw < 6) {
                tell(text());
            } else if (draw < 8) {
                tell(spoiled(text()));
            } else if (draw < 40) {
                minutes();
            } else if (draw < 75) {
                foretold();
            } else if (draw < 85) {
                seen();
            } else {
                looks();
            }
        }
    }

    private void same(String call, int got, int want) {
        calls++;
        Due.is("run " + run + ", call " + calls + ": " + call, got, want);
    }

    private int below(int n) {
        return random.nextInt(n);
    }

    /** Mostly within 0 .. n less 1, now and then anything. */
    private int about(int n) {
        int draw = below(40);
        return draw == 0 ? ODD[below(ODD.length)] : draw == 1 ? n : below(n);
    }

    private String text() {
        StringBuilder text = new StringBuilder();
        int n = gongs;
        int lines = 1 + below(12);
        boolean anew = below(4) == 0;
        for (int i = 0; i < lines && text.length() < 180; i++) {
            if (i > 0) {
                text.append(";");
            }
            if (i == 0 && anew) {
                n = 2 + below(9);
                text.append("cloister ").append(n);
            } else {
                text.append(line(n));
            }
        }
        return text.toString();
    }

    private String line(int n) {
        int gong = below(n);
        int draw = below(20);
        if (draw < 9) {
            int heard = (gong + 1 + below(n - 1)) % n;
            return "hears " + gong + " " + heard + " " + (below(3) == 0 ? 1 + below(9) : 1 + below(4));
        }
        if (draw < 10) {
            return "alone " + gong;
        }
        if (draw < 11) {
            return WEATHERS[below(3)];
        }
        String kind = KINDS[below(3) == 0 ? 0 : below(4)];
        return kind + " " + gong + " " + (below(3) == 0 ? 1 + below(20) : 1 + below(3));
    }

    private String spoiled(String text) {
        StringBuilder other = new StringBuilder(text);
        int draws = 1 + below(3);
        for (int i = 0; i < draws; i++) {
            int at = below(other.length() + 1);
            char sign = " ;0123456789abfglorst\t\0\u00ffZ".charAt(below(25));
            int draw = below(3);
            if (draw == 0 || at == other.length()) {
                other.insert(at, sign);
            } else if (draw == 1) {
                other.deleteCharAt(at);
            } else {
                other.setCharAt(at, sign);
            }
        }
        return other.toString();
    }

    private void tell(String text) {
        byte[] bytes = text.getBytes(StandardCharsets.ISO_8859_1);
        for (int at = 0; at < bytes.length; at += 8) {
            int n = Math.min(8, bytes.length - at);
            long packed = Due.packed(bytes, at, n);
            same("write " + text, x.write(packed, n), model.write(packed, n));
        }
        same("fault " + text, x.fault(), model.fault());
        same("cloister " + text, x.cloister(), model.cloister());
        gongs = model.count(0);
        if (below(3) > 0) {
            same("erase", x.erase(), model.erase());
        }
    }

    private void minutes() {
        int draw = below(20);
        if (draw < 8) {
            int gong = about(gongs);
            same("strike " + gong, x.strike(gong), model.strike(gong));
        } else if (draw < 14) {
            int n = below(10) == 0 ? about(100) : about(12);
            same("go " + n, x.go(n), model.go(n));
        } else if (draw < 16) {
            int weather = about(3);
            same("turn " + weather, x.turn(weather), model.turn(weather));
        } else if (draw < 18) {
            int k = about(2);
            same("keep " + k, x.keep(k), model.keep(k));
        } else {
            int k = about(2);
            same("back " + k, x.back(k), model.back(k));
        }
    }

    private void foretold() {
        int from = about(gongs);
        int a = about(gongs);
        int b = about(gongs);
        int m = below(3) == 0 ? about(65) : about(6);
        int what = about(3);
        int p = about(11);
        int part = about(2);
        switch (below(9)) {
            case 0:
                same("first " + from + " " + a, x.first(from, a), model.first(from, a));
                break;
            case 1:
                same("who " + from, x.who(from), model.who(from));
                break;
            case 2:
                same("ends " + from, x.ends(from), model.ends(from));
                break;
            case 3:
                same("round " + from, x.round(from), model.round(from));
                break;
            case 4:
                same("times " + from + " " + a + " " + m, x.times(from, a, m), model.times(from, a, m));
                break;
            case 5:
                same("apart " + from + " " + a + " " + b, x.apart(from, a, b), model.apart(from, a, b));
                break;
            case 6:
                same("change " + from + " " + a + " " + b + " " + what, x.change(from, a, b, what), model.change(from, a, b, what));
                break;
            case 7:
                same("over " + from + " " + part, x.over(from, part), model.over(from, part));
                break;
            default:
                same("odds " + from + " " + a + " " + p + " " + part, x.odds(from, a, p, part), model.odds(from, a, p, part));
                break;
        }
    }

    private void seen() {
        int draw = below(10);
        if (draw < 4) {
            int gong = about(gongs);
            int struck = about(2);
            same("seen " + gong + " " + struck, x.seen(gong, struck), model.seen(gong, struck));
        } else if (draw < 5) {
            same("forget", x.forget(), model.forget());
        } else {
            int from = about(gongs);
            int what = about(2);
            same("asleep " + from + " " + what, x.asleep(from, what), model.asleep(from, what));
        }
    }

    private void looks() {
        int gong = about(gongs);
        switch (below(6)) {
            case 0: {
                int what = about(5);
                same("gong " + gong + " " + what, x.gong(gong, what), model.gong(gong, what));
                break;
            }
            case 1: {
                int what = about(4);
                same("monk " + gong + " " + what, x.monk(gong, what), model.monk(gong, what));
                break;
            }
            case 2: {
                int kind = about(5);
                same("as " + gong + " " + kind, x.as(gong, kind), model.as(gong, kind));
                break;
            }
            case 3: {
                long bytes = random.nextLong();
                int n = about(9);
                if (below(8) == 0) {
                    same("write " + bytes + " " + n, x.write(bytes, n), model.write(bytes, n));
                }
                same("fault", x.fault(), model.fault());
                break;
            }
            default: {
                int what = about(7);
                same("count " + what, x.count(what), model.count(what));
                break;
            }
        }
    }
}
