/** Promises 13 to 18 and 21: searches, clues, odds, shares and what is left. */
public final class ProofsTest {
    public static void main(String[] args) {
        wrongSearches();
        wrongClues();
        limits();
        searches();
        clues();
        seaOfNow();
        shares();
        left();
        Check.endOf("ProofsTest");
    }

    private static void wrongSearches() {
        DriftDesk desk = new DriftDesk();
        int[][] wrong = {{-1, 0, 0, 0, 0, 0, 0}, {73, 0, 0, 0, 0, 0, 0}, {0, -1, 0, 0, 0, 0, 0},
            {0, 1, 0, 0, 0, 0, 0}, {0, 0, 8, 0, 0, 0, 0}, {0, 8, 8, 0, 0, 0, 0},
            {0, 0, 0, -1, 0, 0, 0}, {0, 0, 0, 1, 0, 0, 0}, {0, 0, 0, 0, 8, 0, 0},
            {0, 0, 0, 0, 0, -1, 0}, {0, 0, 0, 0, 0, 2, 0}, {0, 0, 0, 0, 0, 0, -1},
            {0, 0, 0, 0, 0, 0, 21}};
        for (int[] w : wrong) {
            int got = desk.search(w[0], w[1], w[2], w[3], w[4], w[5], w[6]);
            Check.due("search that can't be", got, -1);
        }
        Check.due("none came", desk.about(2), 0);
        Check.due("the widest search", desk.search(72, 0, 7, 0, 7, 1, 20), 0);
        Check.due("the least search", desk.search(0, 0, 0, 0, 0, 0, 0), 1);
    }

    private static void wrongClues() {
        DriftDesk desk = new DriftDesk();
        int[][] wrong = {{-1, 0, 0, 0, 0}, {73, 0, 0, 0, 0}, {0, -1, 0, 0, 0}, {0, 80, 0, 0, 0},
            {0, 0, -1, 0, 0}, {0, 0, 80, 0, 0}, {0, 0, 0, -1, 0}, {0, 0, 0, 81, 0},
            {0, 0, 0, 0, -1}, {0, 0, 0, 0, 101}};
        for (int[] w : wrong) {
            Check.due("clue that can't be", desk.clue(w[0], w[1], w[2], w[3], w[4]), -1);
        }
        Check.due("none came", desk.about(3), 0);
        Check.due("the widest clue", desk.clue(72, 79, 79, 80, 100), 0);
    }

    private static void limits() {
        DriftDesk desk = new DriftDesk();
        for (int i = 0; i < 6; i++) {
            Check.due("proof " + i, i % 2 == 0 ? desk.clue(0, 0, 0, 0, 50)
                    : desk.search(0, 0, 0, 0, 0, 0, 5), i);
        }
        Check.due("a seventh search", desk.search(0, 0, 0, 0, 0, 0, 5), -1);
        Check.due("a seventh clue", desk.clue(0, 0, 0, 0, 50), -1);
        for (int i = 6; i < 60; i++) {
            Check.due("back(" + (i - 6) + ")", desk.back(i - 6), true);
            Check.due("back again", desk.back(i - 6), false);
            Check.due("proof " + i, desk.clue(0, 0, 0, 0, 50), i);
            Check.due("in all", desk.about(2), i + 1);
            Check.due("standing", desk.about(3), 6);
        }
        Check.due("back(54)", desk.back(54), true);
        Check.due("a 61st clue", desk.clue(0, 0, 0, 0, 50), -1);
        Check.due("a 61st search", desk.search(0, 0, 0, 0, 0, 0, 5), -1);
        Check.due("in all", desk.about(2), 60);
        Check.due("standing", desk.about(3), 5);
        Check.due("back(60)", desk.back(60), false);
        Check.due("back(-1)", desk.back(-1), false);
    }

    private static void searches() {
        DriftDesk desk = Check.deskOf("miss 0 5 30; miss 1 5 7; land 3 3; stream 0 0 0 0;"
                + "stream 3 0 30 0;");
        desk.tale(0, 29, 19, 0, 2);
        desk.tale(0, 30, 19, 0, 3);
        desk.tale(0, 30, 30, 4, 5);
        desk.tale(0, 70, 40, 0, 7);
        Check.due("odds(-1)", desk.odds(-1), -1);
        Check.due("odds(4)", desk.odds(4), -1);
        Check.due("odds(0)", desk.odds(0), 2);
        Check.due("search of column 2", desk.search(0, 2, 2, 1, 1, 0, 5), 0);
        Check.due("in the field", desk.odds(0), 60);
        Check.due("beside it", desk.odds(1), 300);
        desk.back(0);
        desk.search(3, 3, 3, 3, 3, 0, 5);
        Check.due("not yet ashore", desk.odds(2), 150);
        desk.back(1);
        desk.search(4, 3, 3, 3, 3, 0, 5);
        Check.due("ashore is not searched", desk.odds(2), 500);
        desk.back(2);
        desk.search(1, 0, 7, 0, 7, 1, 20);
        Check.due("all over, by the other sort", desk.odds(0), 14);
        Check.due("gone ones are in no field", desk.odds(3), 700);
        desk.search(0, 0, 7, 0, 7, 1, 4);
        Check.due("by too little effort", desk.odds(0), 1400);
        desk.search(0, 0, 7, 0, 7, 0, 5);
        Check.due("three proofs", desk.odds(0), 42000);
    }

    private static void clues() {
        DriftDesk desk = Check.deskOf("stream 0 0 -5 0; land 0 1;");
        desk.tale(0, 20, 0, 0, 1);
        desk.tale(0, 4, 0, 0, 1);
        desk.tale(0, 9, 12, 8, 1);
        desk.clue(1, 18, 3, 3, 20);
        Check.due("three off in x and in y", desk.odds(0), 100);
        Check.due("gone", desk.odds(1), 20);
        Check.due("far", desk.odds(2), 20);
        desk.back(0);
        desk.clue(1, 18, 3, 2, 20);
        Check.due("a reach too short", desk.odds(0), 20);
        desk.back(1);
        desk.clue(1, 18, 4, 3, 20);
        Check.due("too far in y alone", desk.odds(0), 20);
        desk.back(2);
        desk.clue(72, 9, 12, 0, 0);
        Check.due("ashore at the very point", desk.odds(2), 100);
        Check.due("others", desk.odds(0), 0);
        desk.back(3);
        desk.clue(0, 4, 0, 80, 0);
        Check.due("not gone then", desk.odds(1), 100);
    }

    private static void seaOfNow() {
        DriftDesk desk = Check.deskOf("miss 0 5 30;");
        desk.search(0, 0, 0, 0, 0, 0, 5);
        desk.tale(0, 0, 0, 0, 1000);
        Check.due("a proof ahead of the tale", desk.odds(0), 30000);
        Check.sea(desk, "miss 0 5 40;");
        Check.due("miss of now", desk.odds(0), 40000);
        Check.sea(desk, "land 0 0; miss 0 5 40;");
        Check.due("land of now", desk.odds(0), 100000);
    }

    private static void shares() {
        DriftDesk desk = Check.deskOf("land 1 0; stream 1 0 30 0; miss 0 5 0;");
        Check.due("without tales", desk.share(0, 0, true), 1);
        Check.due("likeliest without tales", desk.likeliest(0), -1);
        desk.tale(0, 0, 0, 0, 4);
        desk.tale(0, 12, 3, 0, 6);
        desk.tale(0, 78, 0, 0, 10);
        desk.tale(0, 9, 9, 0, 2);
        Check.due("two in a cell", desk.share(0, 0, false), 3);
        Check.due("of eleven", desk.share(0, 0, true), 11);
        Check.due("ashore counts", desk.share(1, 1, false), 3);
        Check.due("gone ones count among all", desk.share(1, 1, true), 11);
        Check.due("gone ones are in no cell", desk.share(7, 1, false), 0);
        Check.due("none of it", desk.share(7, 1, true), 1);
        Check.due("likeliest(0)", desk.likeliest(0), 7);
        Check.due("the least of like ones", desk.likeliest(1), 0);
        Check.due("likeliest(73)", desk.likeliest(73), -1);
        Check.due("likeliest(-1)", desk.likeliest(-1), -1);
        Check.due("share(64)", desk.share(64, 0, false), -1);
        Check.due("share(-1)", desk.share(-1, 0, false), -1);
        Check.due("share at 73", desk.share(0, 73, true), -1);
        Check.due("share at -1", desk.share(0, -1, true), -1);
        desk.clue(1, 0, 0, 0, 0);
        Check.due("all of it", desk.share(0, 72, false), 1);
        Check.due("all of it", desk.share(0, 72, true), 1);
        desk.clue(1, 79, 79, 0, 0);
        Check.due("all are 0", desk.share(0, 0, false), 0);
        Check.due("all are 0", desk.share(0, 0, true), 1);
        Check.due("likeliest when all are 0", desk.likeliest(0), -1);
    }

    private static void left() {
        DriftDesk desk = new DriftDesk();
        desk.clue(0, 0, 0, 0, 50);
        Check.due("left without tales", desk.left(), 10000);
        for (int i = 0; i < 40; i++) {
            desk.tale(0, i, 0, 0, 1000);
        }
        Check.due("one near, others by half", desk.left(), 5125);
        for (int i = 0; i < 5; i++) {
            desk.clue(0, 0, 0, 80, 0);
        }
        Check.due("the greatest odds", desk.odds(0), 1000000000000000L);
        Check.due("with six proofs", desk.left(), 5125);
        desk.back(0);
        Check.due("taken back", desk.left(), 10000);
        desk.clue(0, 0, 0, 0, 99);
        Check.due("cut", desk.left(), 9902);
        Check.due("share of the greatest", desk.share(0, 0, true), 3961);
        Check.due("share of the greatest", desk.share(0, 0, false), 991);
    }
}
