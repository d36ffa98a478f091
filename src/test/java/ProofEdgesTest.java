/** The edges that the document names for PROOFS, ODDS, SHARES and LEFT: promises 13 to 18, 21. */
public final class ProofEdgesTest {
    private static final int[] SEARCH_LEAST = {0, 0, 0, 0, 0, 0, 0};
    private static final int[] SEARCH_MOST = {72, 7, 7, 7, 7, 1, 20};
    private static final int[] CLUE_LEAST = {0, 0, 0, 0, 0};
    private static final int[] CLUE_MOST = {72, 79, 79, 80, 100};

    public static void main(String[] args) {
        limitsOfASearch();
        fieldTheWrongWayRound();
        limitsOfAClue();
        refusedProofDoesNothing();
        sixThatStand();
        sixtyInAll();
        noSuchProof();
        edgesOfAField();
        searchedAtItsMoment();
        ashoreIsNotSearched();
        goneIsNotSearched();
        effortOfASearch();
        reachOfAClue();
        widestReach();
        clueOfWhatIsGone();
        clueOfWhatIsAshore();
        clueAheadOfTheHour();
        percentOfAClue();
        anyOrder();
        missOfNow();
        noSuchOdds();
        greatestOdds();
        edgesOfCells();
        sharesInLowestTerms();
        sharesWhenAllAreNull();
        noSuchShare();
        likeliestOfLikeOnes();
        likeliestAmongThoseAshore();
        noLikeliest();
        leftWithoutTales();
        leftIsCut();
        leftByEachCountOfProofs();
        Check.endOf("ProofEdgesTest");
    }

    private static int search(DriftDesk desk, int[] n) {
        return desk.search(n[0], n[1], n[2], n[3], n[4], n[5], n[6]);
    }

    private static int clue(DriftDesk desk, int[] n) {
        return desk.clue(n[0], n[1], n[2], n[3], n[4]);
    }

    private static int[] with(int[] numbers, int at, int value) {
        int[] changed = numbers.clone();
        changed[at] = value;
        return changed;
    }

    private static int[] beyond(int least, int most) {
        return new int[] {least - 1, least - 2, most + 1, most + 2, Integer.MIN_VALUE,
            Integer.MAX_VALUE};
    }

    private static DriftDesk deskWith(String text, int x, int y, int hour, int weight) {
        DriftDesk desk = Check.deskOf(text);
        Check.due("the tale's number", desk.tale(0, x, y, hour, weight), 0);
        return desk;
    }

    // "at a moment t (0 .. 72) of the CELLS of a field (columns a .. b, rows c .. d), of a sort S,
    // by an EFFORT e"
    private static void limitsOfASearch() {
        Check.due("the least", search(new DriftDesk(), SEARCH_LEAST), 0);
        Check.due("the most", search(new DriftDesk(), SEARCH_MOST), 0);
        Check.due("the widest", new DriftDesk().search(72, 0, 7, 0, 7, 1, 20), 0);
        for (int i = 0; i < 7; i++) {
            for (int wrong : beyond(SEARCH_LEAST[i], SEARCH_MOST[i])) {
                DriftDesk desk = new DriftDesk();
                String call = "search, number " + i + " is " + wrong;
                Check.due(call, search(desk, with(SEARCH_LEAST, i, wrong)), -1);
                Check.due(call, search(desk, with(SEARCH_MOST, i, wrong)), -1);
                Check.due(call, search(desk, with(new int[] {0, 0, 7, 0, 7, 0, 0}, i, wrong)), -1);
                Check.due("proofs", desk.about(2), 0);
            }
        }
    }

    private static void fieldTheWrongWayRound() {
        for (int first = 0; first <= 7; first++) {
            for (int last = 0; last <= 7; last++) {
                int due = first <= last ? 0 : -1;
                DriftDesk desk = new DriftDesk();
                Check.due("columns", desk.search(0, first, last, 0, 7, 0, 0), due);
                desk = new DriftDesk();
                Check.due("rows", desk.search(0, 0, 7, first, last, 0, 0), due);
            }
        }
    }

    // "R (0 .. 80)", "L (0 .. 100)"
    private static void limitsOfAClue() {
        Check.due("the least", clue(new DriftDesk(), CLUE_LEAST), 0);
        Check.due("the most", clue(new DriftDesk(), CLUE_MOST), 0);
        for (int i = 0; i < 5; i++) {
            int[] most = with(CLUE_LEAST, i, CLUE_MOST[i]);
            Check.due("one at its most", clue(new DriftDesk(), most), 0);
            Check.due("one at its least", clue(new DriftDesk(), with(CLUE_MOST, i, 0)), 0);
            for (int wrong : beyond(CLUE_LEAST[i], CLUE_MOST[i])) {
                DriftDesk desk = new DriftDesk();
                String call = "clue, number " + i + " is " + wrong;
                Check.due(call, clue(desk, with(CLUE_LEAST, i, wrong)), -1);
                Check.due(call, clue(desk, with(CLUE_MOST, i, wrong)), -1);
                Check.due("proofs", desk.about(3), 0);
            }
        }
    }

    // "NONE, doing nothing, if it can't be"
    private static void refusedProofDoesNothing() {
        DriftDesk desk = deskWith("miss 0 1 0;", 5, 5, 0, 9);
        Check.due("refused", desk.search(0, 0, 8, 0, 7, 0, 20), -1);
        Check.due("refused", desk.search(0, 0, 7, 0, 7, 0, 21), -1);
        Check.due("refused", desk.clue(0, 79, 79, 0, 101), -1);
        Check.due("refused", desk.clue(0, 80, 79, 0, 0), -1);
        Check.due("odds", desk.odds(0), 9);
        Check.due("left", desk.left(), 10000);
        Check.due("in all", desk.about(2), 0);
        Check.due("standing", desk.about(3), 0);
        Check.due("none to take back", desk.back(0), false);
        Check.due("the first number", desk.clue(0, 0, 0, 0, 50), 0);
    }

    // "PROOFS, 6 at most (but those TAKEN BACK)"
    private static void sixThatStand() {
        for (int searches = 0; searches <= 6; searches++) {
            DriftDesk desk = deskWith("miss 0 1 10;", 5, 5, 0, 1);
            long odds = 1;
            for (int i = 0; i < 6; i++) {
                Check.due("a proof", i < searches ? desk.search(0, 0, 0, 0, 0, 0, 1)
                        : desk.clue(0, 79, 79, 0, 20), i);
                odds *= i < searches ? 10 : 20;
                Check.due("odds", desk.odds(0), odds);
            }
            Check.due("a seventh search", desk.search(0, 0, 0, 0, 0, 0, 1), -1);
            Check.due("a seventh clue", desk.clue(0, 79, 79, 0, 20), -1);
            Check.due("odds stay", desk.odds(0), odds);
            Check.due("in all", desk.about(2), 6);
            Check.due("back", desk.back(3), true);
            Check.due("standing", desk.about(3), 5);
            Check.due("one that can't be", desk.clue(0, 0, 0, 0, -1), -1);
            Check.due("room for one", desk.clue(0, 79, 79, 0, 50), 6);
            Check.due("odds", desk.odds(0), odds / (3 < searches ? 10 : 20) * 50);
            Check.due("and no more", desk.search(0, 0, 0, 0, 0, 0, 1), -1);
            Check.due("in all", desk.about(2), 7);
            Check.due("standing", desk.about(3), 6);
        }
    }

    // "(or 60 in all)"
    private static void sixtyInAll() {
        for (int sort = 0; sort <= 1; sort++) {
            DriftDesk desk = deskWith("miss 0 1 10;", 5, 5, 0, 1);
            for (int i = 0; i < 60; i++) {
                int got = sort == 0 ? desk.search(0, 0, 0, 0, 0, 0, 1)
                        : desk.clue(0, 79, 79, 0, 10);
                Check.due("proof " + i, got, i);
                Check.due("odds", desk.odds(0), 10);
                if (i < 59) {
                    Check.due("back", desk.back(i), true);
                    Check.due("odds then", desk.odds(0), 1);
                }
            }
            Check.due("standing", desk.about(3), 1);
            Check.due("a 61st search", desk.search(0, 0, 0, 0, 0, 0, 1), -1);
            Check.due("a 61st clue", desk.clue(0, 79, 79, 0, 10), -1);
            Check.due("back(59)", desk.back(59), true);
            Check.due("none stand", desk.about(3), 0);
            Check.due("still no room", desk.clue(0, 79, 79, 0, 10), -1);
            Check.due("nor for a search", desk.search(0, 0, 0, 0, 0, 0, 1), -1);
            Check.due("in all", desk.about(2), 60);
            Check.due("left", desk.left(), 10000);
        }
    }

    // Promise 15: "false if it is so already, or there is none such"
    private static void noSuchProof() {
        DriftDesk desk = deskWith("", 5, 5, 0, 3);
        desk.clue(0, 0, 0, 0, 10);
        desk.clue(0, 0, 0, 0, 20);
        int[] none = {-1, -2, 2, 3, 59, 60, Integer.MIN_VALUE, Integer.MAX_VALUE};
        for (int proof : none) {
            Check.due("back(" + proof + ")", desk.back(proof), false);
            Check.due("odds", desk.odds(0), 600);
            Check.due("standing", desk.about(3), 2);
        }
        Check.due("back(1)", desk.back(1), true);
        Check.due("odds", desk.odds(0), 30);
        Check.due("back(1) again", desk.back(1), false);
        Check.due("odds stay", desk.odds(0), 30);
        Check.due("standing", desk.about(3), 1);
        Check.due("back(0)", desk.back(0), true);
        Check.due("back(0) again", desk.back(0), false);
        Check.due("none stand", desk.about(3), 0);
        Check.due("in all", desk.about(2), 2);
        Check.due("its number", desk.clue(0, 0, 0, 0, 10), 2);
    }

    // "a TALE in one of these CELLS"
    private static void edgesOfAField() {
        int[] sides = {0, 19, 20, 29, 30, 49, 50, 59, 60, 79};
        for (int x : sides) {
            for (int y : sides) {
                DriftDesk desk = deskWith("miss 0 1 7;", x, y, 0, 1);
                desk.search(0, 2, 4, 3, 5, 0, 1);
                boolean in = x >= 20 && x <= 49 && y >= 30 && y <= 59;
                Check.due("at " + x + ", " + y, desk.odds(0), in ? 7 : 100);
                desk.back(0);
                desk.search(0, x / 10, x / 10, y / 10, y / 10, 0, 1);
                Check.due("its own cell", desk.odds(0), 7);
                desk.back(1);
                desk.search(0, 0, 7, 0, 7, 0, 1);
                Check.due("all cells", desk.odds(0), 7);
            }
        }
    }

    private static void searchedAtItsMoment() {
        DriftDesk desk = deskWith("miss 0 1 7; stream 0 0 10 0; stream 1 0 10 0;", 5, 5, 70, 1);
        int[] moments = {0, 69, 70, 71, 72};
        int[] columns = {0, 0, 0, 1, 2};
        for (int i = 0; i < moments.length; i++) {
            for (int column = 0; column <= 3; column++) {
                int proof = desk.search(moments[i], column, column, 0, 0, 0, 1);
                Check.due("odds", desk.odds(0), column == columns[i] ? 7 : 100);
                desk.back(proof);
            }
        }
    }

    // "not ASHORE"
    private static void ashoreIsNotSearched() {
        DriftDesk desk = deskWith("miss 0 1 7; land 1 0; stream 0 0 5 0;", 0, 0, 5, 1);
        int[][] cases = {{5, 7}, {6, 7}, {7, 100}, {72, 100}};
        for (int[] c : cases) {
            int proof = desk.search(c[0], 0, 7, 0, 7, 0, 1);
            Check.due("at " + c[0], desk.odds(0), c[1]);
            desk.back(proof);
        }
        desk = deskWith("miss 0 1 7; land 0 0;", 0, 0, 5, 1);
        int proof = desk.search(4, 0, 0, 0, 0, 0, 1);
        Check.due("not yet ashore where it will begin", desk.odds(0), 7);
        desk.back(proof);
        desk.search(5, 0, 0, 0, 0, 0, 1);
        Check.due("ashore", desk.odds(0), 100);
    }

    private static void goneIsNotSearched() {
        DriftDesk desk = deskWith("miss 0 1 7; stream 0 0 -1 0;", 0, 0, 5, 1);
        int proof = desk.search(5, 0, 7, 0, 7, 0, 1);
        Check.due("still here", desk.odds(0), 7);
        desk.back(proof);
        desk.search(6, 0, 7, 0, 7, 0, 1);
        Check.due("gone", desk.odds(0), 100);
    }

    private static void effortOfASearch() {
        String text = "miss 0 3 60; miss 0 20 0; miss 1 1 99; miss 1 19 1;";
        DriftDesk desk = deskWith(text, 0, 0, 0, 1);
        int[][] cases = {{0, 0, 100}, {0, 2, 100}, {0, 3, 60}, {0, 19, 60}, {0, 20, 0}, {1, 0, 100},
            {1, 1, 99}, {1, 18, 99}, {1, 19, 1}, {1, 20, 1}};
        for (int[] c : cases) {
            int proof = desk.search(0, 0, 0, 0, 0, c[0], c[1]);
            Check.due("sort " + c[0] + " by " + c[1], desk.odds(0), c[2]);
            desk.back(proof);
        }
    }

    // "no more than R (0 .. 80) off in x and in y"
    private static void reachOfAClue() {
        int[] reaches = {0, 1, 10, 39};
        for (int r : reaches) {
            for (int dx = -r - 1; dx <= r + 1; dx += r + 1) {
                for (int dy = -r - 1; dy <= r + 1; dy += r + 1) {
                    near(40 + dx, 40 + dy, r, dx == 0 && dy == 0);
                    near(40 + dx, 40 + dy, Math.min(80, r + 1), true);
                }
            }
            near(40 + r, 40 - r, r, true);
            near(40 - r, 40 + r, r, true);
        }
    }

    private static void near(int x, int y, int r, boolean due) {
        if (x < 0 || x > 79 || y < 0 || y > 79) {
            return;
        }
        DriftDesk desk = deskWith("", 40, 40, 0, 1);
        Check.due("clue", desk.clue(0, x, y, r, 33), 0);
        Check.due("at " + x + ", " + y + " by " + r, desk.odds(0), due ? 100 : 33);
    }

    private static void widestReach() {
        DriftDesk desk = deskWith("", 0, 0, 0, 1);
        desk.clue(0, 79, 79, 80, 0);
        Check.due("by 80", desk.odds(0), 100);
        desk.clue(0, 79, 79, 79, 0);
        Check.due("by 79", desk.odds(0), 10000);
        desk.clue(0, 79, 79, 78, 5);
        Check.due("by 78", desk.odds(0), 50000);
    }

    // "a TALE not GONE whose place at t .."
    private static void clueOfWhatIsGone() {
        DriftDesk desk = deskWith("stream 0 0 -1 0;", 0, 0, 5, 1);
        desk.clue(5, 0, 0, 80, 0);
        Check.due("here at 5", desk.odds(0), 100);
        desk.clue(6, 0, 0, 80, 40);
        Check.due("gone at 6", desk.odds(0), 4000);
        desk.clue(72, 0, 0, 80, 0);
        Check.due("gone at 72, by 0", desk.odds(0), 0);
    }

    private static void clueOfWhatIsAshore() {
        DriftDesk desk = deskWith("land 1 0; stream 0 0 5 0;", 0, 0, 0, 1);
        desk.clue(72, 10, 0, 0, 40);
        Check.due("ashore at the point", desk.odds(0), 100);
        desk.clue(72, 9, 0, 0, 40);
        Check.due("ashore beside it", desk.odds(0), 4000);
    }

    private static void clueAheadOfTheHour() {
        DriftDesk desk = deskWith("stream 0 0 5 0;", 0, 0, 70, 1);
        desk.clue(0, 0, 0, 0, 40);
        Check.due("where it begins", desk.odds(0), 100);
        desk.clue(71, 0, 0, 4, 40);
        Check.due("gone on by 5", desk.odds(0), 4000);
        desk.clue(71, 0, 0, 5, 40);
        Check.due("within 5", desk.odds(0), 400000);
    }

    private static void percentOfAClue() {
        for (int l : new int[] {0, 1, 99, 100}) {
            DriftDesk desk = deskWith("", 0, 0, 0, 1000);
            desk.clue(0, 79, 79, 0, l);
            Check.due("by " + l, desk.odds(0), 1000L * l);
        }
    }

    // "in whatever order they come"
    private static void anyOrder() {
        int[][] orders = {{0, 1, 2}, {0, 2, 1}, {1, 0, 2}, {1, 2, 0}, {2, 0, 1}, {2, 1, 0}};
        for (int[] order : orders) {
            DriftDesk desk = new DriftDesk();
            for (int step : order) {
                if (step == 0) {
                    Check.sea(desk, "miss 0 5 30; stream 0 0 1 0;");
                } else if (step == 1) {
                    desk.tale(0, 5, 5, 0, 2);
                    desk.tale(0, 25, 5, 0, 3);
                } else {
                    desk.search(5, 1, 1, 0, 0, 0, 5);
                    desk.clue(0, 25, 5, 0, 9);
                }
            }
            Check.due("odds(0)", desk.odds(0), 2 * 30 * 9);
            Check.due("odds(1)", desk.odds(1), 3 * 100 * 100);
            Check.due("left", desk.left(), (2 * 30 * 9 + 30000) / 5);
        }
    }

    // "(MISS as the SEA tells it now.)"
    private static void missOfNow() {
        DriftDesk desk = deskWith("miss 0 5 30;", 5, 5, 0, 1);
        desk.search(0, 0, 0, 0, 0, 0, 5);
        Check.due("30", desk.odds(0), 30);
        Check.sea(desk, "miss 0 6 20;");
        Check.due("not told for 5 now", desk.odds(0), 100);
        Check.sea(desk, "miss 0 4 10; miss 0 6 0;");
        Check.due("told for 4", desk.odds(0), 10);
        Check.sea(desk, "miss 0 5 77; ?");
        Check.due("a fault changes none", desk.odds(0), 10);
        Check.sea(desk, "miss 0 5 5; stream 0 0 10 0;");
        Check.due("where it is at 0", desk.odds(0), 5);
    }

    // Promise 16: "NONE if there is none such"
    private static void noSuchOdds() {
        DriftDesk desk = deskWith("", 5, 5, 0, 8);
        for (int tale : new int[] {-1, -2, 1, 2, 40, Integer.MIN_VALUE, Integer.MAX_VALUE}) {
            Check.due("odds(" + tale + ")", desk.odds(tale), -1);
        }
        Check.due("odds(0)", desk.odds(0), 8);
    }

    private static void greatestOdds() {
        DriftDesk desk = new DriftDesk();
        for (int i = 0; i < 40; i++) {
            desk.tale(0, 0, 0, 0, i == 0 ? 999 : 1000);
        }
        for (int i = 0; i < 6; i++) {
            desk.clue(0, 0, 0, 0, 0);
        }
        Check.due("odds(0)", desk.odds(0), 999000000000000L);
        Check.due("odds(39)", desk.odds(39), 1000000000000000L);
        Check.due("share", desk.share(0, 0, false), 1);
        Check.due("of", desk.share(0, 0, true), 1);
        Check.due("left", desk.left(), 10000);
        desk.back(5);
        desk.clue(72, 79, 79, 0, 0);
        Check.due("none left", desk.left(), 0);
        Check.due("odds(39)", desk.odds(39), 0);
    }

    // "each 10 x 10 POINTS; .. in CELL (x / 10, y / 10). CELL number 8 * row + column."
    private static void edgesOfCells() {
        for (int x = 0; x <= 79; x++) {
            for (int y = 0; y <= 79; y += x % 10 == 0 || x % 10 == 9 ? 1 : 79) {
                DriftDesk desk = deskWith("", x, y, 0, 1);
                int cell = 8 * (y / 10) + x / 10;
                Check.due("cell of " + x + ", " + y, desk.likeliest(0), cell);
                Check.due("share of it", desk.share(cell, 0, false), 1);
                Check.due("share of the next", desk.share((cell + 1) % 64, 0, false), 0);
            }
        }
    }

    // "as a fraction in lowest terms"
    private static void sharesInLowestTerms() {
        DriftDesk desk = new DriftDesk();
        desk.tale(0, 0, 0, 0, 6);
        desk.tale(0, 10, 0, 0, 10);
        desk.tale(0, 20, 0, 0, 15);
        desk.tale(0, 20, 0, 0, 14);
        int[][] due = {{2, 15}, {2, 9}, {29, 45}, {0, 1}};
        for (int cell = 0; cell < 4; cell++) {
            Check.due("share", desk.share(cell, 72, false), due[cell][0]);
            Check.due("of", desk.share(cell, 72, true), due[cell][1]);
        }
        for (int i = 0; i < 6; i++) {
            desk.clue(0, 0, 0, 80, 0);
        }
        for (int cell = 0; cell < 4; cell++) {
            Check.due("share by six proofs", desk.share(cell, 72, false), due[cell][0]);
            Check.due("of", desk.share(cell, 72, true), due[cell][1]);
        }
        desk = new DriftDesk();
        desk.tale(0, 0, 0, 0, 997);
        desk.tale(0, 79, 79, 0, 991);
        for (int i = 0; i < 6; i++) {
            desk.clue(0, 0, 0, 0, 97);
        }
        long near = 997L * 1000000000000L;
        long far = 991L * 97 * 97 * 97 * 97 * 97 * 97;
        Check.due("no common divisor", desk.share(0, 0, false), near);
        Check.due("of all", desk.share(0, 0, true), near + far);
        Check.due("the other", desk.share(63, 0, false), far);
    }

    // "0 / 1 if all are 0"
    private static void sharesWhenAllAreNull() {
        DriftDesk desk = new DriftDesk();
        Check.due("without tales", desk.share(0, 0, false), 0);
        Check.due("of", desk.share(0, 0, true), 1);
        desk.tale(0, 0, 0, 0, 1000);
        desk.tale(0, 79, 79, 0, 1);
        desk.clue(0, 79, 79, 0, 0);
        Check.due("one is 0", desk.share(0, 0, false), 0);
        Check.due("of", desk.share(0, 0, true), 1);
        Check.due("the other is all", desk.share(63, 0, false), 1);
        Check.due("of", desk.share(63, 0, true), 1);
        Check.due("likeliest", desk.likeliest(0), 63);
        desk.clue(0, 0, 0, 0, 0);
        for (int cell = 0; cell <= 63; cell++) {
            Check.due("all are 0", desk.share(cell, 0, false), 0);
            Check.due("of", desk.share(cell, 0, true), 1);
        }
    }

    // Promise 17: "NONE if one can't be"
    private static void noSuchShare() {
        DriftDesk desk = deskWith("", 5, 5, 0, 1);
        desk.tale(0, 75, 75, 0, 1);
        for (int end = 0; end <= 72; end += 72) {
            Check.due("cell 0", desk.share(0, end, false), 1);
            Check.due("of", desk.share(0, end, true), 2);
            Check.due("cell 63", desk.share(63, end, false), 1);
        }
        for (int y = 0; y <= 1; y++) {
            for (int wrong : new int[] {-1, -2, 64, 65, Integer.MIN_VALUE, Integer.MAX_VALUE}) {
                Check.due("cell " + wrong, desk.share(wrong, 0, y == 1), -1);
            }
            for (int wrong : new int[] {-1, -2, 73, 74, Integer.MIN_VALUE, Integer.MAX_VALUE}) {
                Check.due("moment " + wrong, desk.share(0, wrong, y == 1), -1);
            }
            Check.due("both", desk.share(64, 73, y == 1), -1);
        }
    }

    // Promise 18: "(the least of like ones)"
    private static void likeliestOfLikeOnes() {
        DriftDesk desk = new DriftDesk();
        desk.tale(0, 79, 79, 0, 5);
        Check.due("the last cell", desk.likeliest(0), 63);
        desk.tale(0, 50, 50, 0, 5);
        Check.due("a cell ahead of it", desk.likeliest(0), 45);
        desk.tale(0, 0, 0, 0, 4);
        Check.due("less", desk.likeliest(0), 45);
        desk.tale(0, 9, 9, 0, 1);
        Check.due("like by two tales", desk.likeliest(0), 0);
        desk.tale(0, 70, 79, 0, 1);
        Check.due("more", desk.likeliest(72), 63);
    }

    private static void likeliestAmongThoseAshore() {
        DriftDesk desk = deskWith("land 7 7;", 79, 79, 0, 2);
        desk.tale(0, 0, 0, 0, 1);
        Check.due("ashore counts", desk.likeliest(0), 63);
        Check.due("and has a share", desk.share(63, 0, false), 2);
        desk = deskWith("stream 0 0 -1 0;", 0, 5, 0, 9);
        desk.tale(0, 75, 75, 0, 1);
        Check.due("ahead of that", desk.likeliest(0), 0);
        Check.due("gone ones do not count", desk.likeliest(1), 63);
        Check.due("but are among all", desk.share(63, 1, true), 10);
    }

    // "NONE if all are 0, or there is no such moment"
    private static void noLikeliest() {
        Check.due("no tales", new DriftDesk().likeliest(72), -1);
        DriftDesk desk = deskWith("stream 0 0 -1 0;", 0, 5, 0, 1);
        for (int moment : new int[] {-1, -2, 73, 74, Integer.MIN_VALUE, Integer.MAX_VALUE}) {
            Check.due("likeliest(" + moment + ")", desk.likeliest(moment), -1);
        }
        Check.due("odds of 1", desk.likeliest(0), 0);
        Check.due("all gone", desk.likeliest(1), -1);
        desk.clue(0, 79, 79, 0, 0);
        Check.due("all are 0", desk.likeliest(0), -1);
        desk.back(0);
        Check.due("and back", desk.likeliest(0), 0);
    }

    // "10000 without TALES"
    private static void leftWithoutTales() {
        DriftDesk desk = new DriftDesk();
        for (int proofs = 0; proofs <= 6; proofs++) {
            Check.due("by " + proofs + " proofs", desk.left(), 10000);
            desk.clue(0, 0, 0, 0, 0);
        }
        desk.tale(0, 79, 79, 0, 1);
        Check.due("a tale that is out", desk.left(), 0);
    }

    // "* 10000 .. (cut)"
    private static void leftIsCut() {
        DriftDesk desk = new DriftDesk();
        desk.tale(0, 0, 0, 0, 2);
        desk.tale(0, 79, 79, 0, 1);
        desk.clue(0, 0, 0, 0, 0);
        Check.due("two thirds", desk.left(), 6666);
        desk.clue(0, 79, 79, 0, 50);
        Check.due("one third", desk.left(), 3333);
        desk = new DriftDesk();
        for (int i = 0; i < 10; i++) {
            desk.tale(0, 0, 0, 0, 1000);
        }
        desk.tale(0, 79, 79, 0, 1);
        desk.clue(0, 79, 79, 0, 0);
        Check.due("1 of 10001", desk.left(), 0);
        desk.back(0);
        desk.clue(0, 0, 0, 0, 0);
        Check.due("10000 of 10001", desk.left(), 9999);
        desk = new DriftDesk();
        desk.tale(0, 79, 79, 0, 1);
        desk.clue(0, 0, 0, 0, 1);
        Check.due("1 of 100", desk.left(), 100);
        desk.clue(0, 0, 0, 0, 1);
        Check.due("1 of 10000", desk.left(), 1);
        desk.clue(0, 0, 0, 0, 99);
        Check.due("less than one", desk.left(), 0);
    }

    // "each WEIGHT taken 100 times for each PROOF": but not for those TAKEN BACK
    private static void leftByEachCountOfProofs() {
        DriftDesk desk = new DriftDesk();
        desk.tale(0, 0, 0, 0, 1);
        desk.tale(0, 79, 79, 0, 2);
        for (int proofs = 1; proofs <= 6; proofs++) {
            desk.clue(0, 0, 0, 0, 50);
            int whole = 3 << proofs;
            Check.due("by " + proofs, desk.left(), ((1 << proofs) + 2) * 10000 / whole);
        }
        for (int proofs = 5; proofs >= 0; proofs--) {
            desk.back(proofs);
            int whole = 3 << proofs;
            Check.due("by " + proofs, desk.left(), ((1 << proofs) + 2) * 10000 / whole);
        }
        DriftDesk gone = deskWith("stream 0 0 -1 0;", 0, 0, 0, 1);
        Check.due("gone ones are still to find", gone.left(), 10000);
    }
}
