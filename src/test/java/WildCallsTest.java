import java.util.Random;

/** No call may throw, whatever its arguments and whatever came ahead of it. */
public final class WildCallsTest {
    private static final int[] EDGES = {Integer.MIN_VALUE, Integer.MIN_VALUE + 1, -1000000, -101,
        -100, -2, -1, 0, 1, 2, 3, 4, 5, 6, 7, 8, 9, 19, 20, 21, 39, 40, 41, 59, 60, 61, 63, 64,
        71, 72, 73, 79, 80, 81, 99, 100, 101, 980, 981, 999, 1000, 1001, 1000000,
        Integer.MAX_VALUE - 1, Integer.MAX_VALUE};

    public static void main(String[] args) {
        for (int seed = 0; seed < 300; seed++) {
            Random random = new Random(seed);
            DriftDesk desk = new DriftDesk();
            if (seed % 3 == 0) {
                Check.sea(desk, "wind 0 30 -30; lee 0 100; stream 3 5 30 30; miss 0 1 0;"
                        + "miss 1 20 0; land 0 0; land 7 7;");
            }
            for (int i = 0; i < 500; i++) {
                int which = random.nextInt(23);
                try {
                    wild(desk, random, which);
                    Check.due("call", 0, 0);
                } catch (RuntimeException thrown) {
                    Check.due("seed " + seed + ", sort " + which + " threw " + thrown, 1, 0);
                }
            }
        }
        Check.endOf("WildCallsTest");
    }

    private static long wild(DriftDesk desk, Random random, int which) {
        int[] n = new int[7];
        for (int i = 0; i < n.length; i++) {
            n[i] = random.nextInt(3) == 0 ? EDGES[random.nextInt(EDGES.length)]
                    : random.nextInt(1 + EDGES[7 + random.nextInt(25)]);
        }
        boolean flag = random.nextBoolean();
        switch (which) {
            case 0: return desk.feed(random.nextInt(), n[1], 0x6c616e64, random.nextInt(), n[4]);
            case 1: return desk.end(n[0]);
            case 2: return desk.sea();
            case 3: return desk.fault(n[0]);
            case 4: return desk.wind(n[0], flag);
            case 5: return desk.stream(n[0], n[1], flag);
            case 6: return desk.miss(n[0], n[1]);
            case 7: return desk.land(n[0]);
            case 8: return desk.tale(n[0], n[1], n[2], n[3], n[4]);
            case 9: return desk.place(n[0], n[1]);
            case 10: return desk.state(n[0], n[1]);
            case 11: return desk.search(n[0], n[1], n[2], n[3], n[4], n[5], n[6]);
            case 12: return desk.clue(n[0], n[1], n[2], n[3], n[4]);
            case 13: return desk.back(n[0]) ? 1 : 0;
            case 14: return desk.odds(n[0]);
            case 15: return desk.share(n[0], n[1], flag);
            case 16: return desk.likeliest(n[0]);
            case 17: return desk.seen(n[0], n[1], n[2]);
            case 18: return desk.split(n[0], n[1], n[2], n[3]);
            case 19: return desk.left();
            case 20: return desk.tracks(n[0], n[1], n[2], n[3]);
            default: return desk.about(n[0]);
        }
    }
}
