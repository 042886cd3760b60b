/** Long runs of mixed calls, ordinary and wrong ones, on the class and on the model beside it. */
public final class ModelTest {
    private static final int RUNS = 600;
    private static final int[] ODD = {
        Integer.MIN_VALUE, Integer.MIN_VALUE + 1, -1000001, -100, -2, -1, 0, 1, 2, 4, 5, 6, 7, 24, 25, 26, 59, 60,
        61, 99, 100, 126, 127, 159, 160, 161, 9998, 9999, 10000, 1 << 20, Integer.MAX_VALUE - 1, Integer.MAX_VALUE
    };
    private static final String[] ASKED = {
        "strokeOf", "messageOf", "letterOf", "correction", "vote", "read", "tableOf", "count", "fault"
    };

    private static long seed;
    private static Calls bells;
    private static Model model;
    private static int left;
    private static int run;
    private static final Due due = new Due();

    public static void main(String[] args) {
        for (run = 0; run < RUNS; run++) {
            seed = 7919L * run + 13;
            bells = new Calls();
            model = new Model();
            left = Calls.MOST;
            while (left > 0) {
                change();
                for (int i = below(4); i >= 0; i--) {
                    ask();
                }
            }
        }
        due.end();
    }

    /** Numbers that look mixed, and are the same each time. */
    private static int below(int bound) {
        seed = seed * 6364136223846793005L + 1442695040888963407L;
        return (int) ((seed >>> 33) % bound);
    }

    private static int odd() {
        return ODD[below(ODD.length)];
    }

    private static int call(String name, int a, int b, int c) {
        int want = model.call(name, a, b, c);
        if (left <= 0) {
            return want;
        }
        left--;
        due.is("run " + run + ", " + left + " calls ahead of its end: " + name + "(" + a + ", " + b + ", " + c + ")",
                bells.call(name, a, b, c), want);
        return want;
    }

    private static int strokes() {
        return model.call("count", 0, 0, 0);
    }

    private static int someStroke() {
        return below(8) == 0 ? odd() : below(strokes() + 1);
    }

    /** Times near the strokes that are there, so that all cases of gaps are met. */
    private static int someTime() {
        if (below(6) == 0) {
            return odd();
        }
        int stroke = below(strokes() + 1);
        int near = stroke < strokes() ? model.call("strokeOf", stroke, 0, 0) : 0;
        return near + below(80) - 20;
    }

    private static void change() {
        switch (below(24)) {
            case 0:
                call("set", below(2), below(3) == 0 ? odd() : below(22), 0);
                break;
            case 1:
                call("set", 1, below(5), 0);
                break;
            case 2:
                call("swap", below(26) - below(2), below(26), 0);
                break;
            case 3:
            case 4:
                call("pause", 0, 0, 0);
                break;
            case 5:
            case 6:
                call("strike", someTime(), 0, 0);
                break;
            case 7:
            case 8:
            case 9:
                call("mute", someStroke(), 0, 0);
                break;
            case 10:
            case 11:
                call("shift", someStroke(), below(4) == 0 ? odd() : below(31) - 15, 0);
                break;
            case 12:
                call("undo", 0, 0, 0);
                break;
            case 13:
            case 14:
            case 15:
                text();
                break;
            case 16:
            case 17:
                checkedMessage();
                break;
            case 18:
                call(below(2) == 0 ? "play" : "clearText", 0, 0, 0);
                break;
            case 19:
                call(below(8) == 0 ? "strike" : "ring", odd(), 0, 0);
                break;
            default:
                call("ring", below(run % 3 == 0 ? 25 : 4 + run % 7), 0, 0);
                break;
        }
    }

    private static void checkedMessage() {
        call("pause", 0, 0, 0);
        int sum = 0;
        for (int i = below(4); i >= 0; i--) {
            int letter = below(12);
            sum += letter;
            call("ring", letter, 0, 0);
        }
        call("ring", sum % 25, 0, 0);
        if (below(2) == 0) {
            call("mute", Math.max(0, strokes() - 1 - below(12)), 0, 0);
        }
    }

    private static String someOrder() {
        StringBuilder order = new StringBuilder();
        int kind = below(12);
        if (kind < 2) {
            order.append("/");
        } else if (kind < 6) {
            order.append(kind < 4 ? "=" : "!");
            for (int i = below(5) - below(10) / 9; i >= 0; i--) {
                order.append((char) ('a' + below(below(12) == 0 ? 27 : 20)));
            }
        } else if (kind < 8) {
            order.append("-").append(below(4) == 0 ? "0" : "").append(below(strokes() + 2));
        } else if (kind < 10) {
            order.append("+").append(below(8) == 0 ? "00" : "").append(Math.max(0, someTime() % 20000));
        } else if (kind == 10) {
            order.append((char) (32 + below(95)));
        }
        if (below(14) != 0) {
            order.append(";");
        }
        return order.toString();
    }

    private static void text() {
        if (below(3) != 0) {
            call("clearText", 0, 0, 0);
        }
        for (int orders = below(5); orders >= 0; orders--) {
            String order = someOrder();
            for (int i = 0; i < order.length(); i++) {
                call("type", order.charAt(i), 0, 0);
            }
        }
        if (below(6) == 0) {
            call("type", odd(), 0, 0);
        }
        call("fault", 0, 0, 0);
        call("fault", 1, 0, 0);
        if (below(2) == 0) {
            call("play", 0, 0, 0);
        }
    }

    private static void ask() {
        int messages = model.call("count", 1, 0, 0);
        int message = below(12) == 0 ? odd() : below(messages + 1);
        int letters = Math.max(0, model.call("messageOf", message, 0, 0));
        int place = below(12) == 0 ? odd() : below(letters + 1);
        int what = below(20) == 0 ? odd() : below(8);
        String name = ASKED[below(ASKED.length)];
        switch (name) {
            case "strokeOf":
                call(name, someStroke(), what, 0);
                break;
            case "letterOf":
                call(name, message, place, what);
                break;
            case "correction":
                call(name, message, below(8) == 0 ? odd() : below(3), what % 5);
                break;
            case "vote":
                call(name, place, what % 4, 0);
                break;
            case "read":
                call(name, below(3) == 0 ? -1 : place, 0, 0);
                break;
            case "count":
                call(name, below(3) == 0 ? 19 + below(4) : below(14) - 1, 0, 0);
                break;
            default:
                call(name, name.equals("messageOf") ? message : name.equals("fault") ? what : below(27) - 1, what, 0);
                break;
        }
    }
}
