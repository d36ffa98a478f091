/** Promises 19, 20, 22 and 23: the BEST split of effort, tracks, and what there is. */
public final class SplitTest {
    public static void main(String[] args) {
        wrong();
        stepsOfEffort();
        likeOnes();
        greatest();
        onlyAdrift();
        tracks();
        about();
        Check.endOf("SplitTest");
    }

    private static void wrong() {
        DriftDesk desk = Check.deskOf("miss 0 1 0;");
        desk.tale(0, 0, 0, 0, 1);
        int[][] wrong = {{-1, 0, 0}, {73, 0, 0}, {0, -1, 0}, {0, 2, 0}, {0, 0, -1}, {0, 0, 41}};
        for (int[] w : wrong) {
            Check.due("seen that can't be", desk.seen(w[0], w[1], w[2]), -1);
            Check.due("split that can't be", desk.split(w[0], w[1], w[2], 0), -1);
        }
        Check.due("split to 64", desk.split(0, 0, 1, 64), -1);
        Check.due("split to -1", desk.split(0, 0, 1, -1), -1);
        Check.due("no effort", desk.seen(72, 0, 0), 0);
        Check.due("no effort", desk.split(72, 0, 0, 0), 0);
        Check.due("one", desk.seen(72, 0, 1), 100);
        Check.due("no more than is needed", desk.split(72, 0, 40, 0), 1);
        Check.due("by a sort that misses all", desk.seen(0, 1, 40), 0);
        Check.due("by a sort that misses all", desk.split(0, 1, 40, 0), 0);
    }

    private static void stepsOfEffort() {
        DriftDesk desk = Check.deskOf("miss 0 3 90; miss 0 4 20; miss 0 20 19;");
        desk.tale(0, 5, 5, 0, 10);
        desk.tale(0, 15, 5, 0, 9);
        desk.tale(0, 25, 5, 0, 8);
        Check.due("too little", desk.seen(0, 0, 2), 0);
        Check.due("three", desk.seen(0, 0, 3), 100);
        Check.due("four", desk.seen(0, 0, 4), 800);
        Check.due("seven", desk.seen(0, 0, 7), 890);
        Check.due("seven: cell 0", desk.split(0, 0, 7, 0), 4);
        Check.due("seven: cell 1", desk.split(0, 0, 7, 1), 3);
        Check.due("seven: cell 2", desk.split(0, 0, 7, 2), 0);
        Check.due("forty", desk.seen(0, 0, 40), 10 * 81 + 9 * 80 + 8 * 80);
        Check.due("forty: cell 0", desk.split(0, 0, 40, 0), 20);
        Check.due("forty: cell 1", desk.split(0, 0, 40, 1), 4);
        Check.due("forty: cell 2", desk.split(0, 0, 40, 2), 4);
        Check.due("forty: cell 63", desk.split(0, 0, 40, 63), 0);
    }

    private static void likeOnes() {
        DriftDesk desk = Check.deskOf("miss 0 2 50; miss 1 2 50; miss 1 5 0;");
        desk.tale(0, 5, 5, 0, 6);
        desk.tale(0, 75, 75, 0, 6);
        Check.due("like cells: the first gets least", desk.split(0, 0, 2, 0), 0);
        Check.due("like cells: the last gets it", desk.split(0, 0, 2, 63), 2);
        // 5 to one cell shows as much as 2 to each, but takes more effort.
        Check.due("least effort: seen", desk.seen(0, 1, 5), 600);
        Check.due("least effort: cell 0", desk.split(0, 1, 5, 0), 2);
        Check.due("least effort: cell 63", desk.split(0, 1, 5, 63), 2);
        Check.due("seven: cell 0", desk.split(0, 1, 7, 0), 2);
        Check.due("seven: cell 63", desk.split(0, 1, 7, 63), 5);
    }

    private static void greatest() {
        DriftDesk desk = Check.deskOf("miss 0 1 0;");
        for (int i = 0; i < 40; i++) {
            desk.tale(0, i % 8 * 10, i / 8 * 10, 0, 1000);
        }
        for (int i = 0; i < 6; i++) {
            desk.clue(0, 0, 0, 80, 0);
        }
        Check.due("all that can be", desk.seen(0, 0, 40), 4000000000000000000L);
        Check.due("but one", desk.seen(0, 0, 39), 3900000000000000000L);
        Check.due("cell 0 gets none of 39", desk.split(0, 0, 39, 0), 0);
        Check.due("cell 1 gets one of 39", desk.split(0, 0, 39, 1), 1);
        Check.due("cell 39 gets one of 1", desk.split(0, 0, 1, 39), 1);
    }

    private static void onlyAdrift() {
        DriftDesk desk = Check.deskOf("miss 0 1 0; land 1 1; stream 3 0 30 0;");
        desk.tale(0, 15, 15, 3, 7);
        desk.tale(0, 60, 60, 0, 5);
        Check.due("adrift, and not yet", desk.seen(0, 0, 2), 1200);
        Check.due("one gone, one not yet", desk.seen(2, 0, 2), 700);
        Check.due("one gone, one ashore", desk.seen(3, 0, 2), 0);
        Check.due("nothing to the shore", desk.split(3, 0, 2, 9), 0);
        Check.due("but ahead of its hour", desk.split(2, 0, 2, 9), 1);
    }

    private static void tracks() {
        DriftDesk desk = new DriftDesk();
        int[][] wrong = {{0, 1, 1, 1}, {9, 1, 1, 1}, {1, 0, 1, 1}, {1, 9, 1, 1}, {1, 1, 0, 1},
            {1, 1, 81, 1}, {1, 1, 1, 0}, {1, 1, 1, 101}, {-1, 1, 1, 1}, {1, 1, -1, 1}};
        for (int[] w : wrong) {
            Check.due("tracks that can't be", desk.tracks(w[0], w[1], w[2], w[3]), -1);
        }
        Check.due("the longest", desk.tracks(8, 8, 1, 1), (80 * 80 + 79) * 60);
        Check.due("legs rounded up", desk.tracks(2, 1, 3, 60), 4 * 20 + 3 * 3);
        Check.due("minutes rounded up", desk.tracks(1, 1, 10, 7), 86);
        Check.due("one leg", desk.tracks(8, 8, 80, 100), 48);
        Check.due("two legs", desk.tracks(8, 8, 79, 100), 144);
    }

    private static void about() {
        DriftDesk desk = Check.deskOf("land 0 0; land 0 1;");
        desk.tale(0, 0, 0, 0, 1);
        desk.search(0, 0, 0, 0, 0, 0, 0);
        desk.clue(0, 0, 0, 0, 0);
        desk.clue(0, 0, 0, 0, 0);
        desk.back(1);
        desk.feed(0, 0, 0, 0, 0);
        int[] due = {2, 1, 3, 2, 20};
        for (int what = 0; what < due.length; what++) {
            Check.due("about(" + what + ")", desk.about(what), due[what]);
        }
        Check.due("about(5)", desk.about(5), -1);
        Check.due("about(-1)", desk.about(-1), -1);
    }
}
