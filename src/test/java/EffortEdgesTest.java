import java.util.Arrays;
import java.util.Random;

/** The edges that the document names for SPLIT, TRACKS and promises 19, 20, 22 and 23. */
public final class EffortEdgesTest {
    public static void main(String[] args) {
        limitsOfASplit();
        noSuchCell();
        nothingToSee();
        noEffort();
        twentyEach();
        fortyTogether();
        leastEffortTogether();
        firstByCells();
        likeOnesAmongMany();
        effortThatShowsNoMore();
        noGainInTheFirstEfforts();
        notAshoreAndNotGone();
        oddsOfNull();
        severalTalesInACell();
        eachTryOfThreeCells();
        greatestSeen();
        everyFortyTales();
        noSplitTouchesTheNext();
        limitsOfTracks();
        tracksRoundedUp();
        allTracks();
        about();
        fiveHundredCalls();
        Check.endOf("EffortEdgesTest");
    }

    private static DriftDesk deskWith(String text, int... xs) {
        DriftDesk desk = Check.deskOf(text);
        for (int i = 0; i < xs.length; i += 3) {
            desk.tale(0, xs[i], xs[i + 1], 0, xs[i + 2]);
        }
        return desk;
    }

    /** Looks at some cells alone: a desk has 512 calls. */
    private static void splits(DriftDesk desk, int sort, int effort, long seen, int... byCell) {
        Check.due("seen by " + effort, desk.seen(0, sort, effort), seen);
        for (int cell : new int[] {0, 1, 2, 3, 4, 8, 62, 63}) {
            int due = 0;
            for (int i = 0; i < byCell.length; i += 2) {
                due = byCell[i] == cell ? byCell[i + 1] : due;
            }
            Check.due("split of " + effort + " to " + cell, desk.split(0, sort, effort, cell), due);
        }
    }

    // "SPLIT of EFFORT n (0 .. 40) at t by a sort S"; "NONE if one can't be"; "NONE likewise"
    private static void limitsOfASplit() {
        DriftDesk desk = deskWith("miss 0 1 50; miss 1 1 40;", 5, 5, 1);
        int[][] right = {{0, 0, 1, 50}, {72, 0, 1, 50}, {0, 1, 1, 60}, {0, 0, 40, 50},
            {72, 1, 40, 60}, {0, 0, 0, 0}};
        for (int[] r : right) {
            Check.due("seen", desk.seen(r[0], r[1], r[2]), r[3]);
            Check.due("split", desk.split(r[0], r[1], r[2], 0), r[2] == 0 ? 0 : 1);
        }
        int[] far = {Integer.MIN_VALUE, -2, -1, 73, 74, 1000, Integer.MAX_VALUE};
        for (int wrong : far) {
            Check.due("seen, moment " + wrong, desk.seen(wrong, 0, 1), -1);
            Check.due("split, moment " + wrong, desk.split(wrong, 0, 1, 0), -1);
            Check.due("seen, sort " + wrong, desk.seen(0, wrong, 1), -1);
            Check.due("split, sort " + wrong, desk.split(0, wrong, 1, 0), -1);
            Check.due("seen, effort " + wrong, desk.seen(0, 0, wrong), -1);
            Check.due("split, effort " + wrong, desk.split(0, 0, wrong, 0), -1);
        }
        Check.due("seen, sort 2", desk.seen(0, 2, 1), -1);
        Check.due("split, sort 2", desk.split(0, 2, 1, 0), -1);
        Check.due("seen, effort 41", desk.seen(0, 0, 41), -1);
        Check.due("split, effort 41", desk.split(0, 0, 41, 0), -1);
    }

    private static void noSuchCell() {
        DriftDesk desk = deskWith("miss 0 1 50;", 79, 79, 1);
        Check.due("cell 0", desk.split(0, 0, 1, 0), 0);
        Check.due("cell 63", desk.split(0, 0, 1, 63), 1);
        for (int cell : new int[] {-1, -2, 64, 65, Integer.MIN_VALUE, Integer.MAX_VALUE}) {
            Check.due("cell " + cell, desk.split(0, 0, 1, cell), -1);
            Check.due("cell " + cell + " of nothing", new DriftDesk().split(0, 0, 0, cell), -1);
        }
    }

    private static void nothingToSee() {
        splits(new DriftDesk(), 0, 40, 0);
        splits(deskWith("miss 0 1 0;"), 0, 40, 0);
        splits(deskWith("", 5, 5, 1000), 0, 40, 0);
        splits(deskWith("miss 0 1 100; miss 0 20 100;", 5, 5, 1000), 0, 40, 0);
        splits(deskWith("miss 1 1 0;", 5, 5, 1000), 0, 40, 0);
    }

    private static void noEffort() {
        splits(deskWith("miss 0 1 0;", 5, 5, 1000, 15, 5, 1), 0, 0, 0);
        splits(deskWith("miss 0 1 0;", 5, 5, 1000, 15, 5, 1), 0, 1, 100000, 0, 1);
    }

    // "to CELLS, 0 .. 20 each"
    private static void twentyEach() {
        DriftDesk desk = deskWith("miss 0 20 0;", 5, 5, 3);
        splits(desk, 0, 19, 0);
        splits(desk, 0, 20, 300, 0, 20);
        splits(desk, 0, 21, 300, 0, 20);
        splits(desk, 0, 40, 300, 0, 20);
        StringBuilder text = new StringBuilder();
        for (int n = 1; n <= 20; n++) {
            text.append("miss 0 ").append(n).append(' ').append(100 - 5 * n).append(';');
        }
        desk = deskWith(text.toString(), 5, 5, 3);
        for (int effort = 0; effort <= 40; effort++) {
            int given = Math.min(20, effort);
            splits(desk, 0, effort, 15L * given, 0, given);
        }
        desk = deskWith(text.toString(), 5, 5, 3, 15, 5, 2);
        splits(desk, 0, 20, 300, 0, 20);
        splits(desk, 0, 21, 310, 0, 20, 1, 1);
        splits(desk, 0, 39, 490, 0, 20, 1, 19);
        splits(desk, 0, 40, 500, 0, 20, 1, 20);
    }

    // "n at most together"
    private static void fortyTogether() {
        DriftDesk desk = deskWith("miss 0 20 0;", 5, 5, 3, 15, 5, 2, 25, 5, 1);
        splits(desk, 0, 39, 300, 0, 20);
        splits(desk, 0, 40, 500, 0, 20, 1, 20);
        desk = deskWith("miss 0 13 0;", 5, 5, 3, 15, 5, 2, 25, 5, 1, 35, 5, 1);
        splits(desk, 0, 38, 500, 0, 13, 1, 13);
        splits(desk, 0, 39, 600, 0, 13, 1, 13, 3, 13);
        splits(desk, 0, 40, 600, 0, 13, 1, 13, 3, 13);
    }

    // "of like ones the least EFFORT together"
    private static void leastEffortTogether() {
        DriftDesk desk = deskWith("miss 0 2 50; miss 0 5 0;", 5, 5, 4, 75, 75, 4);
        splits(desk, 0, 1, 0);
        splits(desk, 0, 2, 200, 63, 2);
        splits(desk, 0, 3, 200, 63, 2);
        splits(desk, 0, 4, 400, 0, 2, 63, 2);
        splits(desk, 0, 5, 400, 0, 2, 63, 2);
        splits(desk, 0, 6, 400, 0, 2, 63, 2);
        splits(desk, 0, 7, 600, 0, 2, 63, 5);
        splits(desk, 0, 9, 600, 0, 2, 63, 5);
        splits(desk, 0, 10, 800, 0, 5, 63, 5);
        splits(desk, 0, 40, 800, 0, 5, 63, 5);
    }

    // "then the first by CELLS 0, 1, .. (the least EFFORT)"
    private static void firstByCells() {
        DriftDesk desk = deskWith("miss 0 1 80; miss 0 2 60; miss 0 3 40;", 5, 5, 1, 15, 5, 1,
                25, 5, 1);
        splits(desk, 0, 1, 20, 2, 1);
        splits(desk, 0, 2, 40, 2, 2);
        splits(desk, 0, 3, 60, 2, 3);
        splits(desk, 0, 4, 80, 1, 1, 2, 3);
        splits(desk, 0, 5, 100, 1, 2, 2, 3);
        splits(desk, 0, 6, 120, 1, 3, 2, 3);
        splits(desk, 0, 7, 140, 0, 1, 1, 3, 2, 3);
        splits(desk, 0, 9, 180, 0, 3, 1, 3, 2, 3);
        splits(desk, 0, 10, 180, 0, 3, 1, 3, 2, 3);
    }

    // Like by more than one way: 6 * 50 and 3 * 100, of as much EFFORT.
    private static void likeOnesAmongMany() {
        DriftDesk desk = deskWith("miss 0 2 50; miss 0 3 0;", 5, 5, 6, 15, 5, 3, 25, 5, 3);
        splits(desk, 0, 2, 300, 0, 2);
        splits(desk, 0, 3, 600, 0, 3);
        splits(desk, 0, 5, 750, 0, 3, 2, 2);
        splits(desk, 0, 6, 900, 0, 3, 2, 3);
        splits(desk, 0, 8, 1050, 0, 3, 1, 2, 2, 3);
    }

    private static void effortThatShowsNoMore() {
        DriftDesk desk = deskWith("miss 0 1 50; miss 0 2 50; miss 0 3 50; miss 0 20 49;", 5, 5, 1,
                15, 5, 1);
        splits(desk, 0, 1, 50, 1, 1);
        splits(desk, 0, 20, 100, 0, 1, 1, 1);
        splits(desk, 0, 21, 101, 0, 1, 1, 20);
        splits(desk, 0, 39, 101, 0, 1, 1, 20);
        splits(desk, 0, 40, 102, 0, 20, 1, 20);
    }

    private static void noGainInTheFirstEfforts() {
        DriftDesk desk = deskWith("miss 0 1 100; miss 0 2 99; miss 0 3 99; miss 0 4 0;", 5, 5, 9,
                15, 5, 10);
        splits(desk, 0, 1, 0);
        splits(desk, 0, 3, 10, 1, 2);
        splits(desk, 0, 4, 1000, 1, 4);
        splits(desk, 0, 6, 1009, 0, 2, 1, 4);
        splits(desk, 0, 7, 1009, 0, 2, 1, 4);
        splits(desk, 0, 8, 1900, 0, 4, 1, 4);
    }

    // "the TALES in a CELL, not ASHORE"
    private static void notAshoreAndNotGone() {
        DriftDesk desk = Check.deskOf("miss 0 1 0; land 1 0; stream 0 0 5 0; stream 1 0 5 0;");
        desk.tale(0, 0, 0, 0, 2);
        desk.tale(0, 74, 0, 0, 3);
        desk.tale(0, 15, 5, 72 - 1, 4);
        Check.due("all at 0", desk.seen(0, 0, 40), 900);
        Check.due("all at 1", desk.seen(1, 0, 40), 900);
        Check.due("one ashore, one gone at 2", desk.seen(2, 0, 40), 400);
        Check.due("to the one not yet ashore", desk.split(70, 0, 40, 1), 1);
        Check.due("and it alone", desk.seen(70, 0, 40), 400);
        Check.due("none at 71", desk.seen(71, 0, 40), 0);
        Check.due("none to it at 71", desk.split(71, 0, 40, 1), 0);
        Check.due("none at 72", desk.seen(72, 0, 40), 0);
    }

    private static void oddsOfNull() {
        DriftDesk desk = deskWith("miss 0 1 0;", 5, 5, 9, 75, 75, 1);
        desk.clue(0, 75, 75, 0, 0);
        splits(desk, 0, 40, 10000, 63, 1);
        desk.clue(0, 5, 5, 0, 0);
        splits(desk, 0, 40, 0);
    }

    private static void severalTalesInACell() {
        DriftDesk desk = deskWith("miss 0 1 50;", 0, 0, 3, 9, 9, 3, 10, 0, 5, 0, 10, 5);
        splits(desk, 0, 1, 300, 0, 1);
        splits(desk, 0, 2, 550, 0, 1, 8, 1);
        splits(desk, 0, 3, 800, 0, 1, 1, 1, 8, 1);
    }

    /** All splits to three cells, one by one, by the words of the document. */
    private static void eachTryOfThreeCells() {
        Random random = new Random(7);
        for (int round = 0; round < 40; round++) {
            int[] miss = new int[21];
            miss[0] = 100;
            StringBuilder text = new StringBuilder();
            for (int e = 1; e <= 20; e++) {
                boolean told = random.nextInt(3) == 0;
                miss[e] = told ? Math.max(0, miss[e - 1] - 10 * random.nextInt(4)) : miss[e - 1];
                text.append(told ? "miss 1 " + e + " " + miss[e] + ";" : "");
            }
            int[] weights = {1 + random.nextInt(4), 1 + random.nextInt(4), 1 + random.nextInt(4)};
            DriftDesk desk = deskWith(text.toString(), 5, 5, weights[0], 15, 5, weights[1], 5, 75,
                    weights[2]);
            int effort = random.nextInt(41);
            long most = -1;
            int[] best = {0, 0, 0, 99};
            for (int a = 0; a <= 20; a++) {
                for (int b = 0; b <= 20 && a + b <= effort; b++) {
                    for (int c = 0; c <= 20 && a + b + c <= effort; c++) {
                        long sum = weights[0] * (100 - miss[a]) + weights[1] * (100 - miss[b])
                                + weights[2] * (100 - miss[c]);
                        // The tries come in the order of their cells: the first of like ones stays.
                        if (sum > most || sum == most && a + b + c < best[3]) {
                            most = sum;
                            best = new int[] {a, b, c, a + b + c};
                        }
                    }
                }
            }
            String name = text + " " + Arrays.toString(weights) + " by " + effort;
            Check.due("seen: " + name, desk.seen(0, 1, effort), most);
            Check.due("cell 0: " + name, desk.split(0, 1, effort, 0), best[0]);
            Check.due("cell 1: " + name, desk.split(0, 1, effort, 1), best[1]);
            Check.due("cell 56: " + name, desk.split(0, 1, effort, 56), best[2]);
        }
    }

    private static void greatestSeen() {
        DriftDesk desk = Check.deskOf("miss 0 20 0;");
        for (int i = 0; i < 40; i++) {
            desk.tale(0, 5, 5, 0, 1000);
        }
        for (int i = 0; i < 6; i++) {
            desk.clue(0, 5, 5, 0, 0);
        }
        splits(desk, 0, 19, 0);
        splits(desk, 0, 20, 4000000000000000000L, 0, 20);
        splits(desk, 0, 40, 4000000000000000000L, 0, 20);
    }

    // Forty TALES in forty CELLS: none is left out, neither the first nor the last.
    private static void everyFortyTales() {
        DriftDesk desk = Check.deskOf("miss 0 1 50; miss 0 2 0;");
        for (int i = 0; i < 40; i++) {
            int cell = i < 20 ? i : i + 24;
            desk.tale(0, cell % 8 * 10, cell / 8 * 10, 0, i + 1);
        }
        for (int effort = 1; effort <= 40; effort++) {
            // The greatest first, each by two; by one the next, since that is as much for each.
            long due = 0;
            for (int k = 0; k < effort; k++) {
                due += 50L * (40 - k / 2);
            }
            Check.due("seen by " + effort, desk.seen(0, 0, effort), due);
            Check.due("the last cell", desk.split(0, 0, effort, 63), Math.min(2, effort));
            Check.due("the first cell", desk.split(0, 0, effort, 0), 0);
            Check.due("cell 43", desk.split(0, 0, effort, 43), 0);
            Check.due("cell 44", desk.split(0, 0, effort, 44),
                    Math.max(0, Math.min(2, effort - 38)));
        }
    }

    // A SPLIT of less EFFORT, of fewer CELLS or of another sort behind a greater one.
    private static void noSplitTouchesTheNext() {
        DriftDesk desk = deskWith("miss 0 1 50; miss 0 2 0; miss 1 1 90; miss 1 3 80;", 5, 5, 1,
                15, 5, 1, 25, 5, 1);
        int[] seen = {0, 50, 100, 150, 200, 250, 300};
        int[][] gifts = {{0, 0, 0}, {0, 0, 1}, {0, 0, 2}, {0, 1, 2}, {0, 2, 2}, {1, 2, 2},
            {2, 2, 2}};
        for (int effort = 6; effort >= 0; effort--) {
            splits(desk, 0, 40, 300, 0, 2, 1, 2, 2, 2);
            int[] g = gifts[effort];
            splits(desk, 0, effort, seen[effort], 0, g[0], 1, g[1], 2, g[2]);
            splits(desk, 1, 1, 10, 2, 1);
        }
        int proof = desk.clue(0, 5, 5, 0, 0);
        splits(desk, 0, 40, 10000, 0, 2);
        splits(desk, 0, 0, 0);
        desk.back(proof);
        splits(desk, 0, 0, 0);
        desk.sea();
        splits(desk, 0, 40, 0);
        splits(desk, 0, 0, 0);
    }

    // "width and height (1 .. 8), by a WIDTH seen (1 .. 80 POINTS) and a SPEED (1 .. 100 ..)"
    private static void limitsOfTracks() {
        DriftDesk desk = new DriftDesk();
        int[] most = {8, 8, 80, 100};
        Check.due("the least", desk.tracks(1, 1, 1, 1), (10 * 10 + 9) * 60);
        Check.due("the most", desk.tracks(8, 8, 80, 100), 48);
        for (int i = 0; i < 4; i++) {
            for (int wrong : new int[] {0, -1, -2, most[i] + 1, most[i] + 2, Integer.MIN_VALUE,
                Integer.MAX_VALUE}) {
                int[] low = {1, 1, 1, 1};
                low[i] = wrong;
                int[] high = most.clone();
                high[i] = wrong;
                String call = "tracks, number " + i + " is " + wrong;
                Check.due(call, desk.tracks(low[0], low[1], low[2], low[3]), -1);
                Check.due(call, desk.tracks(high[0], high[1], high[2], high[3]), -1);
            }
        }
    }

    private static void tracksRoundedUp() {
        DriftDesk desk = new DriftDesk();
        Check.due("one leg by a width as high as the field", desk.tracks(3, 2, 20, 60), 30);
        Check.due("one leg by a wider one", desk.tracks(3, 2, 21, 60), 30);
        Check.due("two legs by one less", desk.tracks(3, 2, 19, 60), 30 + 19 + 30);
        Check.due("two legs by half", desk.tracks(3, 2, 10, 60), 30 + 10 + 30);
        Check.due("three by less than half", desk.tracks(3, 2, 9, 60), 30 + 9 + 30 + 9 + 30);
        Check.due("minutes without a rest", desk.tracks(1, 1, 10, 100), 6);
        Check.due("600 / 99", desk.tracks(1, 1, 10, 99), 7);
        Check.due("600 / 60", desk.tracks(1, 1, 10, 60), 10);
        Check.due("600 / 61", desk.tracks(1, 1, 10, 61), 10);
        Check.due("600 / 59", desk.tracks(1, 1, 10, 59), 11);
        Check.due("width is not height", desk.tracks(8, 1, 10, 60), 80);
        Check.due("height is not width", desk.tracks(1, 8, 10, 60), 8 * 10 + 7 * 10);
    }

    private static void allTracks() {
        Model model = new Model();
        int wrong = 0;
        for (int width = 1; width <= 8; width++) {
            for (int height = 1; height <= 8; height++) {
                for (int seen = 1; seen <= 80; seen++) {
                    DriftDesk desk = new DriftDesk();
                    for (int speed = 1; speed <= 100; speed++) {
                        wrong += desk.tracks(width, height, seen, speed)
                                == model.tracks(width, height, seen, speed) ? 0 : 1;
                    }
                }
            }
        }
        Check.due("tracks that are not as the model's", wrong, 0);
    }

    // Promise 23: "NONE for another what."
    private static void about() {
        DriftDesk desk = Check.deskOf("land 0 0; land 0 1; land 0 2; land 0 3; land 0 4;");
        for (int i = 0; i < 4; i++) {
            desk.tale(0, 0, 0, 0, 1);
        }
        for (int i = 0; i < 3; i++) {
            desk.clue(0, 0, 0, 0, 0);
        }
        desk.back(0);
        desk.feed(0, 0, 0, 0, 0);
        desk.end(19);
        int[] due = {5, 4, 3, 2, 19};
        for (int what = 0; what < 5; what++) {
            Check.due("about(" + what + ")", desk.about(what), due[what]);
        }
        for (int what : new int[] {-1, -2, 5, 6, Integer.MIN_VALUE, Integer.MAX_VALUE}) {
            Check.due("about(" + what + ")", desk.about(what), -1);
        }
    }

    // "An object is used for at most 512 calls": the 512th answers as the first does.
    private static void fiveHundredCalls() {
        DriftDesk desk = new DriftDesk();
        int calls = 0;
        for (int i = 0; i < 60; i++, calls += 2) {
            Check.due("clue", desk.clue(0, 0, 0, 0, 50), i);
            Check.due("back", desk.back(i), true);
        }
        for (int i = 0; i < 40; i++, calls++) {
            Check.due("tale", desk.tale(3, 79, 79, 71, 1000), i);
        }
        for (int i = 1; i <= 50; i++, calls++) {
            Check.due("feed", desk.feed(0x20202020, 0x20202020, 0x20202020, 0x20202020, 0x20202020),
                    20 * i);
        }
        for (; calls < 510; calls++) {
            Check.due("seen", desk.seen(72, 1, 40), 0);
        }
        Check.due("the 511th", desk.sea(), 0);
        Check.due("the 512th", desk.left(), 10000);
    }
}
