/** The edges that the document names for TALES and their drift: promises 10 to 12. */
public final class TaleEdgesTest {
    private static final int[] LEAST = {0, 0, 0, 0, 1};
    private static final int[] MOST = {3, 79, 79, 71, 1000};
    /** Four quarters, eight tales, and the cells with what is missed. */
    private static final int PARTS = 13;

    public static void main(String[] args) {
        limitsOfATale();
        refusedTaleDoesNothing();
        fortyTales();
        noSuchTaleOrMoment();
        aheadOfItsHour();
        firstAndLastHour();
        windOfItsOwnHour();
        cutTowardsNull();
        streamIsNotCut();
        leeOfEachKind();
        edgesOfQuarters();
        oneStepByBoth();
        edgesOfTheChart();
        farOffTheChart();
        goneFromThenOn();
        edgesOfLand();
        overLand();
        ashoreStays();
        beginsOnLand();
        offTheChartBesideLand();
        anotherSea();
        seaAfterSea();
        Check.endOf("TaleEdgesTest");
    }

    private static int tell(DriftDesk desk, int[] n) {
        return desk.tale(n[0], n[1], n[2], n[3], n[4]);
    }

    private static DriftDesk deskWith(String text, int kind, int x, int y, int hour) {
        DriftDesk desk = Check.deskOf(text);
        Check.due("the tale's number", desk.tale(kind, x, y, hour, 1), 0);
        return desk;
    }

    private static void at(DriftDesk desk, int moment, int state, int x, int y) {
        Check.due("state at " + moment, desk.state(0, moment), state);
        Check.due("place at " + moment, desk.place(0, moment), state == 2 ? -1 : 100 * y + x);
    }

    // "a kind K", "at a POINT", "an hour (0 .. 71)", "a WEIGHT (1 .. 1000)"
    private static void limitsOfATale() {
        for (int i = 0; i < 5; i++) {
            int[] values = {LEAST[i], LEAST[i] + 1, MOST[i] - 1, MOST[i], LEAST[i] - 1,
                LEAST[i] - 2, MOST[i] + 1, MOST[i] + 2, Integer.MIN_VALUE, Integer.MAX_VALUE,
                1 << 16, -(1 << 16)};
            for (int k = 0; k < values.length; k++) {
                DriftDesk desk = new DriftDesk();
                int[] low = LEAST.clone();
                low[i] = values[k];
                String call = "tale, number " + i + " is " + values[k];
                Check.due(call, tell(desk, low), k < 4 ? 0 : -1);
                int[] high = MOST.clone();
                high[i] = values[k];
                Check.due(call, tell(desk, high), k < 4 ? 1 : -1);
                Check.due("tales", desk.about(1), k < 4 ? 2 : 0);
            }
        }
    }

    // "NONE, doing nothing, if it can't be"
    private static void refusedTaleDoesNothing() {
        DriftDesk desk = new DriftDesk();
        desk.tale(0, 5, 6, 0, 7);
        int[][] wrong = {{4, 1, 1, 1, 1}, {0, 80, 1, 1, 1}, {0, 1, 80, 1, 1}, {0, 1, 1, 72, 1},
            {0, 1, 1, 1, 0}, {0, 1, 1, 1, 1001}, {-1, -1, -1, -1, -1}};
        for (int[] w : wrong) {
            Check.due("refused", tell(desk, w), -1);
            Check.due("tales", desk.about(1), 1);
            Check.due("no such tale", desk.odds(1), -1);
            Check.due("the first stays", desk.place(0, 0), 605);
            Check.due("its odds stay", desk.odds(0), 7);
            Check.due("all odds stay", desk.share(0, 0, true), 1);
        }
        Check.due("the next number", desk.tale(1, 1, 1, 1, 1), 1);
    }

    // "TALES, 40 at most"; "NONE, doing nothing, if .. there are 40"
    private static void fortyTales() {
        DriftDesk desk = new DriftDesk();
        for (int i = 0; i < 40; i++) {
            Check.due("tale " + i, desk.tale(0, 2 * i, 79 - i, 0, i + 1), i);
            Check.due("tales", desk.about(1), i + 1);
        }
        Check.due("a 41st", desk.tale(0, 0, 0, 0, 1), -1);
        Check.due("one that can't be", desk.tale(9, 0, 0, 0, 1), -1);
        Check.due("tales", desk.about(1), 40);
        for (int i = 0; i < 40; i++) {
            Check.due("place of " + i, desk.place(i, 72), 100 * (79 - i) + 2 * i);
            Check.due("odds of " + i, desk.odds(i), i + 1);
        }
        Check.due("no 41st", desk.odds(40), -1);
        Check.due("all weights", desk.share(56, 0, true), 820 / 5);
        desk.sea();
        Check.due("a new SEA makes no room", desk.tale(0, 0, 0, 0, 1), -1);
    }

    // Promises 11 and 12: "a moment (0 .. 72)"; "NONE if .. one can't be"; "NONE likewise"
    private static void noSuchTaleOrMoment() {
        DriftDesk desk = new DriftDesk();
        desk.tale(0, 1, 2, 0, 1);
        desk.tale(0, 79, 79, 71, 1);
        for (int moment : new int[] {0, 1, 71, 72}) {
            Check.due("place", desk.place(0, moment), 201);
            Check.due("state", desk.state(0, moment), 0);
            Check.due("place", desk.place(1, moment), 7979);
        }
        for (int moment : new int[] {-1, -2, 73, 74, Integer.MIN_VALUE, Integer.MAX_VALUE}) {
            Check.due("place at " + moment, desk.place(0, moment), -1);
            Check.due("state at " + moment, desk.state(0, moment), -1);
            Check.due("place of none at " + moment, desk.place(2, moment), -1);
        }
        for (int tale : new int[] {-1, 2, 3, 39, 40, Integer.MIN_VALUE, Integer.MAX_VALUE}) {
            Check.due("place of " + tale, desk.place(tale, 0), -1);
            Check.due("state of " + tale, desk.state(tale, 0), -1);
        }
        // The first POINT is told as 0, which is not NONE.
        at(deskWith("", 0, 0, 0, 0), 0, 0, 0, 0);
    }

    // "Ahead of its hour it is where it begins."
    private static void aheadOfItsHour() {
        for (int hour = 0; hour <= 71; hour++) {
            DriftDesk desk = deskWith("stream 0 0 1 0; stream 1 0 1 0;", 0, 3, 3, hour);
            for (int moment = 0; moment <= 72; moment++) {
                int steps = Math.max(0, moment - hour);
                at(desk, moment, 0, 3 + steps, 3);
            }
        }
    }

    private static void firstAndLastHour() {
        DriftDesk desk = deskWith("stream 0 0 1 0; stream 0 1 0 0; stream 0 71 0 2;", 0, 10, 10, 0);
        at(desk, 0, 0, 10, 10);
        at(desk, 1, 0, 11, 10);
        at(desk, 71, 0, 11, 10);
        at(desk, 72, 0, 11, 12);
        desk = deskWith("stream 0 70 9 9; stream 0 71 0 2;", 0, 10, 10, 71);
        at(desk, 71, 0, 10, 10);
        at(desk, 72, 0, 10, 12);
    }

    // "the hour h: from moment h to moment h + 1"
    private static void windOfItsOwnHour() {
        DriftDesk desk = deskWith("lee 0 100; wind 4 1 0; wind 5 0 1; wind 6 0 0;", 0, 10, 10, 3);
        at(desk, 4, 0, 10, 10);
        at(desk, 5, 0, 11, 10);
        at(desk, 6, 0, 11, 11);
        at(desk, 7, 0, 11, 11);
        desk = deskWith("lee 0 100; wind 4 1 0; wind 5 0 1; wind 6 0 0;", 0, 10, 10, 5);
        at(desk, 5, 0, 10, 10);
        at(desk, 6, 0, 10, 11);
    }

    // "WIND * LEE / 100 in x and in y (each cut towards 0)"
    private static void cutTowardsNull() {
        int[][] cases = {{25, 4, 1}, {-25, 4, -1}, {24, 4, 0}, {-24, 4, 0}, {30, 3, 0}, {-30, 3, 0},
            {30, 100, 30}, {-30, 100, -30}, {30, 99, 29}, {-30, 99, -29}, {30, 0, 0}, {-30, 0, 0},
            {1, 100, 1}, {-1, 100, -1}, {1, 99, 0}, {-1, 99, 0}, {29, 7, 2}, {-29, 7, -2}};
        for (int[] c : cases) {
            String lee = "lee 1 " + c[1] + ";";
            at(deskWith(lee + "wind 0 " + c[0] + " 0;", 1, 40, 40, 0), 1, 0, 40 + c[2], 40);
            at(deskWith(lee + "wind 0 0 " + c[0] + ";", 1, 40, 40, 0), 1, 0, 40, 40 + c[2]);
        }
    }

    // What is cut is the WIND's part alone, not the whole step.
    private static void streamIsNotCut() {
        String text = "lee 0 50; wind 0 1 -1; stream 0 0 -1 1;";
        at(deskWith(text, 0, 20, 20, 0), 1, 0, 19, 21);
        text = "lee 0 50; wind 0 3 -3; stream 0 0 -2 2;";
        at(deskWith(text, 0, 20, 20, 0), 1, 0, 19, 21);
    }

    // "LEE of a kind: 3 if not told."
    private static void leeOfEachKind() {
        for (int told = 0; told <= 3; told++) {
            DriftDesk desk = Check.deskOf("lee " + told + " 50; wind 0 30 -30;");
            for (int kind = 0; kind <= 3; kind++) {
                desk.tale(kind, 30, 30, 71, 1);
                int step = kind == told ? 15 : 0;
                Check.due("kind " + kind, desk.place(kind, 72), 100 * (30 - step) + 30 + step);
            }
        }
        // No WIND is strong enough to show the 3 of 100 alone: 30 * 3 / 100 is 0, not 1.
        at(deskWith("wind 0 30 30;", 2, 30, 30, 0), 72, 0, 30, 30);
        at(deskWith("lee 2 4; wind 0 25 -25; wind 1 0 0;", 2, 30, 30, 0), 72, 0, 31, 29);
    }

    // "0: x and y below 40; 1: x from 40 on, y below; 2: y from 40 on, x below; 3: both"
    private static void edgesOfQuarters() {
        String text = "stream 0 71 1 0; stream 1 71 2 0; stream 2 71 3 0; stream 3 71 4 0;";
        int[] sides = {0, 39, 40, 75};
        for (int x : sides) {
            for (int y : sides) {
                int quarter = (x < 40 ? 0 : 1) + (y < 40 ? 0 : 2);
                at(deskWith(text, 0, x, y, 0), 72, 0, x + quarter + 1, y);
            }
        }
        // The quarter is the one in which it is when the hour begins.
        DriftDesk desk = deskWith("stream 0 0 1 0; stream 1 0 0 5; stream 3 0 -3 0;"
                + "stream 2 0 0 -7;", 0, 39, 38, 0);
        at(desk, 1, 0, 40, 38);
        at(desk, 2, 0, 40, 43);
        at(desk, 3, 0, 37, 43);
        at(desk, 4, 0, 37, 36);
        at(desk, 5, 0, 38, 36);
    }

    // "as one step": what the STREAM alone or the WIND alone would pass does not count.
    private static void oneStepByBoth() {
        at(deskWith("lee 0 100; wind 0 -5 0; stream 1 0 5 0;", 0, 79, 10, 0), 72, 0, 79, 10);
        at(deskWith("lee 0 100; wind 0 -5 0; stream 0 0 5 0; land 1 0;", 0, 9, 5, 0), 72, 0, 9, 5);
        at(deskWith("lee 0 100; wind 0 5 0; stream 0 0 5 0; land 1 0;", 0, 9, 5, 0), 1, 1, 19, 5);
        at(deskWith("lee 0 100; wind 0 6 0; stream 0 0 5 0; land 1 0;", 0, 9, 5, 0), 1, 0, 20, 5);
    }

    // "If that leads off the CHART it is GONE"
    private static void edgesOfTheChart() {
        int[][] ways = {{1, 0, 78, 30}, {-1, 0, 1, 30}, {0, 1, 30, 78}, {0, -1, 30, 1}};
        for (int[] w : ways) {
            StringBuilder text = new StringBuilder();
            for (int quarter = 0; quarter <= 3; quarter++) {
                text.append("stream ").append(quarter).append(" 0 ").append(w[0]).append(' ')
                        .append(w[1]).append(';');
            }
            DriftDesk desk = deskWith(text.toString(), 0, w[2], w[3], 0);
            at(desk, 0, 0, w[2], w[3]);
            at(desk, 1, 0, w[2] + w[0], w[3] + w[1]);
            at(desk, 2, 2, 0, 0);
            at(desk, 3, 2, 0, 0);
            at(desk, 72, 2, 0, 0);
        }
        at(deskWith("stream 3 71 4 4;", 0, 75, 75, 0), 72, 0, 79, 79);
        at(deskWith("stream 3 71 5 4;", 0, 75, 75, 0), 72, 2, 0, 0);
        at(deskWith("stream 3 71 4 5;", 0, 75, 75, 0), 72, 2, 0, 0);
        at(deskWith("stream 0 71 -4 -4;", 0, 4, 4, 0), 72, 0, 0, 0);
        at(deskWith("stream 0 71 -5 -4;", 0, 4, 4, 0), 72, 2, 0, 0);
        at(deskWith("stream 0 71 -4 -5;", 0, 4, 4, 0), 72, 2, 0, 0);
        at(deskWith("stream 3 71 5 4;", 0, 75, 75, 0), 71, 0, 75, 75);
    }

    private static void farOffTheChart() {
        String all = "lee 0 100; wind 0 30 30; stream 0 0 30 30;";
        at(deskWith(all, 0, 19, 19, 0), 1, 0, 79, 79);
        at(deskWith(all, 0, 20, 19, 0), 1, 2, 0, 0);
        at(deskWith(all, 0, 39, 39, 0), 1, 2, 0, 0);
        all = "lee 0 100; wind 0 -30 -30; stream 3 0 -30 -30;";
        at(deskWith(all, 0, 60, 60, 0), 1, 0, 0, 0);
        at(deskWith(all, 0, 60, 59, 0), 1, 2, 0, 0);
        at(deskWith(all, 0, 40, 40, 0), 1, 2, 0, 0);
    }

    // "GONE from then on"
    private static void goneFromThenOn() {
        String text = "lee 0 100; wind 10 -1 0; wind 11 1 0; wind 12 0 0;";
        DriftDesk desk = deskWith(text, 0, 0, 50, 5);
        at(desk, 10, 0, 0, 50);
        for (int moment = 11; moment <= 72; moment++) {
            at(desk, moment, 2, 0, 0);
        }
    }

    // "if it leads into a CELL with land .. it is ASHORE"
    private static void edgesOfLand() {
        for (int dx = -1; dx <= 1; dx++) {
            for (int dy = -1; dy <= 1; dy++) {
                int[] sides = {39, 40, 49, 50};
                for (int x : sides) {
                    for (int y : sides) {
                        boolean land = x + dx >= 40 && x + dx <= 49 && y + dy >= 40 && y + dy <= 49;
                        boolean begins = x >= 40 && x <= 49 && y >= 40 && y <= 49;
                        if (begins) {
                            continue;
                        }
                        String text = "land 4 4; lee 0 100; wind 71 " + dx + " " + dy + ";";
                        DriftDesk desk = deskWith(text, 0, x, y, 0);
                        at(desk, 71, 0, x, y);
                        at(desk, 72, land ? 1 : 0, x + dx, y + dy);
                    }
                }
            }
        }
    }

    private static void overLand() {
        at(deskWith("land 1 0; stream 0 0 11 0;", 0, 9, 0, 0), 1, 0, 20, 0);
        at(deskWith("land 0 1; stream 0 0 0 11;", 0, 0, 9, 0), 1, 0, 0, 20);
    }

    // "ASHORE: it stays there"
    private static void ashoreStays() {
        DriftDesk desk = deskWith("land 0 0; stream 0 0 -1 0;", 0, 11, 5, 0);
        at(desk, 1, 0, 10, 5);
        for (int moment = 2; moment <= 72; moment++) {
            at(desk, moment, 1, 9, 5);
        }
    }

    // "or it begins there"; promise 12: "0 adrift (or not yet)"
    private static void beginsOnLand() {
        for (int hour : new int[] {0, 1, 35, 71}) {
            DriftDesk desk = deskWith("land 7 7; stream 3 0 1 1;", 0, 79, 79, hour);
            for (int moment = 0; moment <= 72; moment++) {
                at(desk, moment, moment < hour ? 0 : 1, 79, 79);
            }
        }
    }

    private static void offTheChartBesideLand() {
        DriftDesk desk = deskWith("land 0 1; land 7 0; stream 0 0 -1 0;", 0, 0, 9, 0);
        at(desk, 1, 2, 0, 0);
        // To the left of row 1 would be column 7 of row 0, were the CHART to wrap around.
        desk = deskWith("land 7 0; stream 0 0 -1 0;", 0, 0, 10, 0);
        at(desk, 1, 2, 0, 0);
        desk = deskWith("land 0 1; stream 1 0 1 0;", 0, 79, 5, 0);
        at(desk, 1, 2, 0, 0);
    }

    private static void anotherSea() {
        DriftDesk desk = deskWith("stream 0 0 -30 0;", 0, 10, 10, 0);
        at(desk, 1, 2, 0, 0);
        Check.sea(desk, "land 1 1; stream 0 0 -30 0;");
        at(desk, 1, 1, 10, 10);
        Check.sea(desk, "stream 0 0 1 0; stream 0 1 0 0;");
        at(desk, 1, 0, 11, 10);
        desk.sea();
        at(desk, 72, 0, 10, 10);
    }

    // Nothing of a text is left once another, or one behind that, is the SEA.
    private static void seaAfterSea() {
        String[] texts = {"wind 0 1 2; wind 50 3 4; stream 0 0 5 6; stream 3 71 7 8; lee 0 100;"
            + "lee 3 50; land 0 0; land 7 7; miss 0 1 50; miss 1 1 40; miss 1 20 2;",
            "wind 1 9 9; stream 0 1 9 9; lee 1 7; land 1 0; miss 0 2 30;", "", "land 3 3;",
            "miss 1 5 5;", "wind 0 1 2; wind 50 3 4; stream 0 0 5 6; stream 3 71 7 8; lee 0 100; ?",
            "stream 2 4 1 1;", "wind 3 1 1; land 2 2; miss 0 3 3; lee 2 90; stream 0 3 2 2; wind",
            ""};
        for (int last = 0; last < texts.length; last++) {
            for (int part = 0; part < PARTS; part++) {
                DriftDesk desk = new DriftDesk();
                tellAll(desk);
                String read = "";
                for (int i = 0; i <= last; i++) {
                    read = Check.sea(desk, texts[i]) >= 0 ? texts[i] : read;
                }
                DriftDesk fresh = Check.deskOf(read);
                tellAll(fresh);
                same(part, desk, fresh);
            }
        }
    }

    private static void tellAll(DriftDesk desk) {
        for (int kind = 0; kind <= 3; kind++) {
            desk.tale(kind, 35, 35, 0, 1);
            desk.tale(kind, 45, 45, 20, 1);
        }
    }

    /** Looks at one part of what there is: a desk has 512 calls. */
    private static void same(int part, DriftDesk desk, DriftDesk fresh) {
        Check.due("lines", desk.about(0), fresh.about(0));
        if (part < 4) {
            sameFlows(part, desk, fresh);
        } else if (part < 12) {
            sameDrift(part - 4, desk, fresh);
        } else {
            sameCells(desk, fresh);
        }
    }

    private static void sameFlows(int quarter, DriftDesk desk, DriftDesk fresh) {
        for (int hour = 0; hour <= 71; hour++) {
            Check.due("wind x", desk.wind(hour, false), fresh.wind(hour, false));
            Check.due("wind y", desk.wind(hour, true), fresh.wind(hour, true));
            Check.due("stream x", desk.stream(quarter, hour, false),
                    fresh.stream(quarter, hour, false));
            Check.due("stream y", desk.stream(quarter, hour, true),
                    fresh.stream(quarter, hour, true));
        }
    }

    private static void sameDrift(int tale, DriftDesk desk, DriftDesk fresh) {
        for (int moment = 0; moment <= 72; moment++) {
            Check.due("place", desk.place(tale, moment), fresh.place(tale, moment));
            Check.due("state", desk.state(tale, moment), fresh.state(tale, moment));
        }
    }

    private static void sameCells(DriftDesk desk, DriftDesk fresh) {
        for (int effort = 0; effort <= 20; effort++) {
            Check.due("miss", desk.miss(0, effort), fresh.miss(0, effort));
            Check.due("miss", desk.miss(1, effort), fresh.miss(1, effort));
        }
        for (int cell = 0; cell <= 63; cell++) {
            Check.due("land", desk.land(cell), fresh.land(cell));
        }
    }
}
