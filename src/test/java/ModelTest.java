import java.util.Random;

/** All promises: the class against the model of the tests, over many runs of made-up calls. */
public final class ModelTest {
    private final Random random;
    private final DriftDesk desk = new DriftDesk();
    private final Model model = new Model();

    private ModelTest(long seed) {
        random = new Random(seed);
    }

    public static void main(String[] args) {
        for (int seed = 0; seed < 150; seed++) {
            new ModelTest(seed).run();
        }
        Check.endOf("ModelTest");
    }

    private void run() {
        text(random.nextInt(4) == 0);
        int tales = random.nextInt(5) == 0 ? 42 : random.nextInt(12);
        for (int i = 0; i < tales; i++) {
            tale();
        }
        // A text is read into rows that held the last but one: it takes three to show what stayed.
        for (int texts = 0; texts < 5; texts++) {
            for (int i = 0; i < 25; i++) {
                call();
            }
            text(random.nextInt(3) == 0);
        }
        for (int i = 0; i < 25; i++) {
            call();
        }
    }

    /** Mostly within the limits, at times at or just beyond one, seldom far off. */
    private int number(int least, int most) {
        switch (random.nextInt(40)) {
            case 0:
                return least - 1;
            case 1:
                return most + 1;
            case 2:
                return least;
            case 3:
                return most;
            case 4:
                return random.nextInt(8) == 0 ? random.nextInt() : most;
            default:
                return least + random.nextInt(most - least + 1);
        }
    }

    private int safe(int least, int most) {
        return least + random.nextInt(most - least + 1);
    }

    private String lineOfSea(int[] misses) {
        switch (random.nextInt(7)) {
            case 0:
                return "wind " + safe(0, 71) + " " + safe(-30, 30) + " " + safe(-30, 30);
            case 1:
            case 2:
                return "stream " + safe(0, 3) + " " + safe(0, 71) + " " + safe(-6, 6) + " "
                        + safe(-6, 6);
            case 3:
                return "lee " + safe(0, 3) + " " + safe(0, 100);
            case 4:
                return "land " + safe(0, 7) + " " + safe(0, 7);
            default:
                int sort = safe(0, 1);
                misses[sort] += safe(1, 3);
                misses[2 + sort] = Math.max(0, misses[2 + sort] - safe(0, 30));
                return "miss " + sort + " " + misses[sort] + " " + misses[2 + sort];
        }
    }

    private void text(boolean spoil) {
        int[] misses = {0, 0, 100, 100};
        StringBuilder text = new StringBuilder();
        int lines = random.nextInt(20) == 0 ? 62 : random.nextInt(25);
        for (int i = 0; i < lines; i++) {
            String line = lineOfSea(misses);
            Model alone = new Model();
            // What is told already, or can't be, is mostly left out, so that most texts are read.
            if (spoil || fits(alone, text + line + ";")) {
                text.append(line).append(random.nextBoolean() ? ";" : " ;\n");
            }
        }
        if (spoil && text.length() > 0) {
            spoil(text);
        }
        String whole = text.length() > 1000 ? text.substring(0, 1000) : text.toString();
        feedBoth(whole);
        same("sea() of [" + whole + "]", desk.sea(), model.sea());
        same("fault(0) of [" + whole + "]", desk.fault(0), model.fault(0));
        same("fault(1) of [" + whole + "]", desk.fault(1), model.fault(1));
        same("about(4)", desk.about(4), model.about(4));
    }

    private static boolean fits(Model alone, String text) {
        if (text.length() > 980) {
            return false;
        }
        feed(alone, text);
        return alone.sea() >= 0;
    }

    private void spoil(StringBuilder text) {
        String signs = "0123456789-; \nabzwx;#A\u00e9windmisslandleestream";
        int at = random.nextInt(text.length());
        char sign = signs.charAt(random.nextInt(signs.length()));
        switch (random.nextInt(4)) {
            case 0:
                text.insert(at, sign);
                break;
            case 1:
                text.setCharAt(at, sign);
                break;
            case 2:
                text.deleteCharAt(at);
                break;
            default:
                text.setLength(at);
                break;
        }
    }

    private static void feed(Model model, String text) {
        for (int i = 0; i < text.length(); i += 20) {
            int[] numbers = new int[5];
            for (int k = 0; k < 20; k++) {
                int sign = i + k < text.length() ? text.charAt(i + k) : ' ';
                numbers[k / 4] = numbers[k / 4] << 8 | sign;
            }
            model.feed(numbers);
        }
        model.end(text.length());
    }

    private void feedBoth(String text) {
        desk.end(0);
        model.end(0);
        Check.feed(desk, text);
        feed(model, text);
        same("about(4) of a text", desk.about(4), model.about(4));
    }

    private void tale() {
        int kind = number(0, 3);
        int x = number(0, 79);
        int y = number(0, 79);
        int hour = random.nextBoolean() ? 0 : number(0, 71);
        int weight = random.nextBoolean() ? safe(1, 3) : number(1, 1000);
        same("tale(" + kind + ", " + x + ", " + y + ", " + hour + ", " + weight + ")",
                desk.tale(kind, x, y, hour, weight), model.tale(kind, x, y, hour, weight));
    }

    private void call() {
        int moment = number(0, 72);
        int cell = number(0, 63);
        int tale = number(0, Math.max(0, model.about(1) - 1));
        int sort = number(0, 1);
        boolean flag = random.nextBoolean();
        switch (random.nextInt(18)) {
            case 0:
                tale();
                break;
            case 1:
                same("wind(" + moment + ")", desk.wind(moment, flag), model.wind(moment, flag));
                break;
            case 2:
                int quarter = number(0, 3);
                same("stream(" + quarter + ", " + moment + ")",
                        desk.stream(quarter, moment, flag), model.stream(quarter, moment, flag));
                break;
            case 3:
                int effort = number(0, 20);
                same("miss(" + sort + ", " + effort + ")",
                        desk.miss(sort, effort), model.miss(sort, effort));
                break;
            case 4:
                same("land(" + cell + ")", desk.land(cell), model.land(cell));
                break;
            case 5:
            case 6:
                same("place(" + tale + ", " + moment + ")",
                        desk.place(tale, moment), model.place(tale, moment));
                same("state(" + tale + ", " + moment + ")",
                        desk.state(tale, moment), model.state(tale, moment));
                break;
            case 7:
                search();
                break;
            case 8:
                clue();
                break;
            case 9:
                int proof = number(0, Math.max(0, model.about(2) - 1));
                same("back(" + proof + ")", desk.back(proof) ? 1 : 0, model.back(proof) ? 1 : 0);
                break;
            case 10:
                same("odds(" + tale + ")", desk.odds(tale), model.odds(tale));
                break;
            case 11:
                int likely = random.nextBoolean() ? model.likeliest(moment) : cell;
                same("share(" + likely + ", " + moment + ")",
                        desk.share(likely, moment, flag), model.share(likely, moment, flag));
                break;
            case 12:
                same("likeliest(" + moment + ")", desk.likeliest(moment), model.likeliest(moment));
                break;
            case 13:
            case 14:
                best(moment, sort, cell);
                break;
            case 15:
                same("left()", desk.left(), model.left());
                break;
            case 16:
                int[] t = {number(1, 8), number(1, 8), number(1, 80), number(1, 100)};
                same("tracks(" + t[0] + ", " + t[1] + ", " + t[2] + ", " + t[3] + ")",
                        desk.tracks(t[0], t[1], t[2], t[3]), model.tracks(t[0], t[1], t[2], t[3]));
                break;
            default:
                int what = number(0, 4);
                same("about(" + what + ")", desk.about(what), model.about(what));
                break;
        }
    }

    private void search() {
        int moment = number(0, 72);
        int a = number(0, 4);
        int b = number(3, 7);
        int c = number(0, 4);
        int d = number(3, 7);
        int sort = number(0, 1);
        int effort = number(0, 20);
        same("search(" + moment + ", " + a + ", " + b + ", " + c + ", " + d + ", " + sort + ", "
                + effort + ")", desk.search(moment, a, b, c, d, sort, effort),
                model.search(moment, a, b, c, d, sort, effort));
    }

    private void clue() {
        int moment = number(0, 72);
        int x = number(0, 79);
        int y = number(0, 79);
        int r = number(0, 80);
        int l = number(0, 100);
        same("clue(" + moment + ", " + x + ", " + y + ", " + r + ", " + l + ")",
                desk.clue(moment, x, y, r, l), model.clue(moment, x, y, r, l));
    }

    private void best(int moment, int sort, int cell) {
        int effort = number(0, 40);
        String call = "(" + moment + ", " + sort + ", " + effort;
        same("seen" + call + ")", desk.seen(moment, sort, effort),
                model.seen(moment, sort, effort));
        int first = moment >= 0 && moment <= 72 ? Math.max(0, model.likeliest(moment)) : 0;
        for (int c : new int[] {cell, first, number(0, 63)}) {
            same("split" + call + ", " + c + ")", desk.split(moment, sort, effort, c),
                    model.split(moment, sort, effort, c));
        }
    }

    private void same(String call, long got, long want) {
        Check.due(call, got, want);
    }
}
