/** Long mixed runs of all calls, promises 1 to 19, against the model. */
public final class ModelTest {
    private static final int RUNS = 240;
    private static final int CALLS = 280;
    private static final int[] ODD = {Integer.MIN_VALUE, -7, -2, -1, 2, 3, 6, 16, 32, 64, 2048, Integer.MAX_VALUE};

    private long seed = 88172645463325252L;
    private StrictSentences x;
    private Model model;
    private String pending = "";

    public static void main(String[] args) {
        ModelTest test = new ModelTest();
        for (int run = 0; run < RUNS; run++) {
            test.run(run);
        }
        Check.end();
    }

    private void run(int run) {
        x = new StrictSentences();
        model = new Model();
        pending = "";
        for (int call = 0; call < CALLS; call++) {
            if (pending.isEmpty() && below(3) == 0) {
                pending = writeText();
            }
            if (!pending.isEmpty() && below(12) > 0) {
                sayNext(run);
            } else {
                anyCall("run " + run + " call " + call + ": ");
            }
        }
    }

    private void sayNext(int run) {
        char sign = pending.charAt(0);
        pending = pending.substring(1);
        Check.due("run " + run + " say " + sign, x.say(sign), model.say(sign));
        if (pending.isEmpty()) {
            int to = slot();
            Check.due("run " + run + " read " + to, x.read(to), model.read(to));
            Check.due("run " + run + " fault", x.fault(), model.fault());
            if (below(8) > 0) {
                Check.due("run " + run + " wipe", x.wipe(), model.wipe());
            }
        }
    }

    private void anyCall(String where) {
        int a = slot();
        int b = slot();
        int c = slot();
        int k = odd(below(12));
        int what = odd(below(6));
        switch (below(20)) {
            case 0:
            case 1:
                Check.due(where + "make", x.make(a, b, c, k % 4), model.make(a, b, c, k % 4));
                break;
            case 2:
                Check.due(where + "part", x.part(a, b, k), model.part(a, b, k));
                break;
            case 3:
                Check.due(where + "sign", x.sign(a, k - 1), model.sign(a, k - 1));
                Check.due(where + "signs", x.sign(a, -1), model.sign(a, -1));
                break;
            case 4:
                Check.due(where + "told", x.told(a, k, what % 4), model.told(a, k, what % 4));
                break;
            case 5:
                if (below(4) == 0) {
                    Check.due(where + "drop", x.drop(a), model.drop(a));
                }
                break;
            case 6:
                Check.due(where + "plain", x.plain(a), model.plain(a));
                break;
            case 7:
                Check.due(where + "rows", x.rows(a), model.rows(a));
                break;
            case 8:
            case 9:
                Check.due(where + "follows", x.follows(a, b), model.follows(a, b));
                break;
            case 10:
            case 11:
            case 12:
                int set = odd(below(2048) & below(2048) >> below(9));
                Check.due(where + "from", x.from(a, set, k), model.from(a, set, k));
                break;
            case 13:
                Check.due(where + "worlds " + what, x.worlds(a, what), model.worlds(a, what));
                break;
            case 14:
            case 15:
                int i = odd(below(20));
                Check.due(where + "world", x.world(a, i, what % 4), model.world(a, i, what % 4));
                break;
            case 16:
                Check.due(where + "image", x.image(k), model.image(k));
                break;
            case 17:
                Check.due(where + "restore", x.restore(k), model.restore(k));
                break;
            default:
                int which = odd(below(17));
                Check.due(where + "count " + which, x.count(which), model.count(which));
        }
    }

    /** A text that is mostly a sentence, at times with a sign wrong, gone or too many. */
    private String writeText() {
        StringBuilder text = new StringBuilder();
        write(text, below(4) + 1);
        int spoil = below(12);
        int place = below(text.length());
        if (spoil == 0) {
            text.setCharAt(place, (char) (33 + below(94)));
        } else if (spoil == 1) {
            text.deleteCharAt(place);
        } else if (spoil == 2) {
            text.insert(place, "(-pF&|>)".charAt(below(8)));
        }
        return text.toString();
    }

    private void write(StringBuilder text, int depth) {
        int way = depth == 0 ? 9 : below(10);
        if (way < 2) {
            text.append('-');
            write(text, depth - 1);
        } else if (way < 8) {
            text.append('(');
            write(text, depth - 1);
            text.append("&|>>".charAt(below(4)));
            write(text, depth - 1);
            text.append(')');
        } else {
            text.append("ppppqqqrrsF".charAt(below(11)));
        }
    }

    private int slot() {
        return below(40) == 0 ? ODD[below(ODD.length)] : below(6);
    }

    private int odd(int usual) {
        return below(30) == 0 ? ODD[below(ODD.length)] : usual;
    }

    private int below(int bound) {
        seed ^= seed << 13;
        seed ^= seed >>> 7;
        seed ^= seed << 17;
        return (int) Math.floorMod(seed >>> 8, (long) bound);
    }
}
