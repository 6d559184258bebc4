// Boundaries of promises 24 to 30: few DOINGS, what was put in, by a seed.
public final class BoundsOfSearchTest extends Cases {
  // ---- promises 24 and 25

  /** STUFF m of the one before it and of STUFF 0; the last alone feeds. */
  private static Beginning chain(int made) {
    StringBuilder text = new StringBuilder("raw1 0;");
    for (int m = 1; m <= made; m++) text.append("mix").append(m - 1).append(" 0 ").append(m == made ? "9;" : "0;");
    return told(text + "have0 40;");
  }

  private static void bestBounds() {
    bounds("24: best, k", 0, 4, (x, k) -> x.best(k, 0));
    tooSmall("24: best, what", 0, (x, what) -> x.best(1, what));
    for (int w = 2; w <= 9; w++) {
      int what = w;
      leaves("24: best, there is no what " + what, BUSY, x -> x.best(2, what), BAD);
    }
    leaves("24: best, BAD ahead of NONE", BUSY, x -> x.best(5, 14), BAD);
    leaves("24: best changes nothing", BUSY, x -> x.best(4, 0), 84);
    run("24: best, no DOING", BUSY).due(72, x -> x.count(1)).due(72, x -> x.best(0, 0)).due(0, x -> x.best(0, 1))
        .due(NONE, x -> x.best(0, 10));
    Run four = run("24: best, the fourth DOING alone feeds", chain(4)).due(0, x -> x.best(3, 0))
        .due(0, x -> x.best(3, 1)).due(NONE, x -> x.best(3, 10)).due(9, x -> x.best(4, 0)).due(4, x -> x.best(4, 1));
    for (int i = 0; i < 4; i++) {
      int at = i;
      four.due(at + 1, x -> x.best(4, 10 + at));
    }
    four.due(NONE, x -> x.best(4, 14)).due(NONE, x -> x.best(4, MAX)).due(BAD, x -> x.best(4, 9))
        .due(BAD, x -> x.best(4, 2));
    run("24: best, fewer behind more", chain(4)).due(4, x -> x.best(4, 1)).due(0, x -> x.best(3, 1))
        .due(NONE, x -> x.best(3, 10)).due(0, x -> x.best(0, 1)).due(4, x -> x.least(4, 0))
        .due(0, x -> x.best(2, 1)).due(NONE, x -> x.best(2, 10)).due(0, x -> x.least(0, 0))
        .due(NONE, x -> x.least(0, 10));
    run("24: best, a fifth is too far", chain(5)).due(0, x -> x.best(4, 0)).due(0, x -> x.best(4, 1));
    run("24: best, fewer than k", chain(2)).due(9, x -> x.best(2, 0)).due(2, x -> x.best(3, 1))
        .due(18, x -> x.best(4, 0)).due(4, x -> x.best(4, 1));
    run("24: best, fewest first: none is done where none gains", told("raw1 2;mix0 0 4;have0 9;have1 9;"))
        .due(54, x -> x.best(4, 0)).due(0, x -> x.best(4, 1));
    run("24: best, fewest first: none is done where all lose", told("raw1 2;mix0 0 3;have0 9;"))
        .due(18, x -> x.best(4, 0)).due(0, x -> x.best(4, 1));
    run("24: best, then by NUMBERS: the lesser STUFF", told("raw1 0;mix0 0 5;mix0 0 5;have0 2;"))
        .due(5, x -> x.best(1, 0)).due(1, x -> x.best(1, 10));
    Beginning either = told("raw1 3;raw1 0;mix1 1 6;mix0 0 0;have1 2;have3 1;");
    run("24: best, then by NUMBERS: cooked ahead of TURNED", either).due(6, x -> x.best(1, 0))
        .due(2, x -> x.best(1, 10)).due(12, x -> x.best(2, 0)).due(2, x -> x.best(2, 10))
        .due(13, x -> x.best(2, 11)).due(NONE, x -> x.best(2, 12));
    run("24: best, 40 are the most, cooked", told("raw1 0;mix0 0 9;have0 40;have1 39;"))
        .due(360, x -> x.best(4, 0)).due(1, x -> x.best(4, 1));
    run("24: best, 40 are the most, TURNED", told("raw1 9;mix0 0 0;have0 38;have1 4;")).due(360, x -> x.best(4, 0))
        .due(1, x -> x.best(4, 1)).due(11, x -> x.best(4, 10));
    run("24: best, every other salt", told("raw1 0;raw1 9;salt0 1 0;have2 4;")).due(0, x -> x.best(1, 0))
        .due(9, x -> x.best(2, 0)).due(9, x -> x.best(3, 0)).due(2, x -> x.best(3, 1)).due(18, x -> x.best(4, 0));
    run("24: best, HALF as it is", halved("salt0 1 0;", 0, 0, 1)).due(2, x -> x.best(1, 0))
        .due(1, x -> x.best(1, 1)).due(12, x -> x.best(1, 10));
  }

  private static void leastBounds() {
    bounds("25: least, m", 0, 6, (x, m) -> x.least(m, 0));
    tooSmall("25: least, what", 0, (x, what) -> x.least(6, what));
    for (int w = 1; w <= 9; w++) {
      int what = w;
      leaves("25: least, there is no what " + what, BUSY, x -> x.least(5, what), BAD);
    }
    leaves("25: least, BAD ahead of NONE", there("mix0 1 1;", 0, 0, 0), x -> x.least(2, 1), BAD);
    leaves("25: least, by none", there("mix0 1 1;", 0, 0, 0), x -> x.least(2, 0), NONE);
    leaves("25: least, a raw one by none", there("mix0 1 1;", 0, 1, 0), x -> x.least(0, 0), NONE);
    leaves("25: least, a row by none", there("mix0 1 1;", 0, 0, 0), x -> x.least(2, 10), NONE);
    leaves("25: least, one is there already", there("mix0 1 1;", 1, 1, 1), x -> x.least(2, 0), 0);
    leaves("25: least, 40 are there already", there("mix0 1 1;", 1, 1, 40), x -> x.least(2, 0), 0);
    leaves("25: least, then there is no DOING 0", there("mix0 1 1;", 1, 1, 1), x -> x.least(2, 10), NONE);
    leaves("25: least changes nothing", BUSY, x -> x.least(5, 0), 2);
    Run four = run("25: least, four DOINGS", chain(6)).due(4, x -> x.least(4, 0));
    for (int i = 0; i < 4; i++) {
      int at = i;
      four.due(at + 1, x -> x.least(4, 10 + at));
    }
    four.due(NONE, x -> x.least(4, 14)).due(NONE, x -> x.least(4, MAX)).due(NONE, x -> x.least(5, 0))
        .due(NONE, x -> x.least(5, 10));
    run("25: least, one less to do", then(chain(6), x -> x.fill(1, 1))).due(4, x -> x.least(5, 0))
        .due(2, x -> x.least(5, 10)).due(5, x -> x.least(5, 13));
    run("25: least, one DOING", there("mix0 1 1;", 1, 1, 0)).due(1, x -> x.least(2, 0)).due(2, x -> x.least(2, 10))
        .due(NONE, x -> x.least(2, 11));
    Beginning bare = told("raw1 1;mix0 0 1;mix1 0 1;mix1 1 1;");
    run("25: least, by NUMBERS: cooked ahead of TURNED", then(bare, x -> { x.fill(0, 2); x.fill(2, 1); }))
        .due(1, x -> x.least(1, 0)).due(1, x -> x.least(1, 10));
    run("25: least, by NUMBERS: TURNED alone", then(bare, x -> { x.fill(0, 1); x.fill(2, 1); }))
        .due(1, x -> x.least(1, 0)).due(12, x -> x.least(1, 10));
    run("25: least, by NUMBERS: the lesser STUFF", then(bare, x -> { x.fill(2, 1); x.fill(3, 1); }))
        .due(12, x -> x.least(1, 10));
    run("25: least, boiling takes its B", there("boil0 1 1;", 0, 0, 4)).due(1, x -> x.least(0, 0))
        .due(NONE, x -> x.least(1, 0));
    run("25: least, burning shuts in", there("burn0 1 1;", 0, 0, 4)).due(NONE, x -> x.least(0, 0))
        .due(NONE, x -> x.least(1, 0));
    run("25: least, every other salt", there("salt0 1 1;", 0, 0, 2)).due(2, x -> x.least(1, 0))
        .due(12, x -> x.least(1, 10)).due(12, x -> x.least(1, 11));
    run("25: least, the one salt is lost", there("salt0 1 1;", 0, 0, 1)).due(NONE, x -> x.least(1, 0));
    run("25: least, HALF as it is", halved("salt0 1 1;", 0, 0, 1)).due(1, x -> x.least(1, 0));
    run("25: least, 40 are the most", there("mix0 1 1;", 40, 0, 1)).due(NONE, x -> x.least(1, 0));
    run("25: least, room is made first", there("mix0 1 1;mix0 0 1;", 40, 0, 1, 0)).due(2, x -> x.least(1, 0))
        .due(3, x -> x.least(1, 10)).due(12, x -> x.least(1, 11));
  }

  // ---- promises 26 to 29: SEEN

  private static void seenBounds() {
    bounds("26: see, x", 0, 6, (x, y) -> x.see(y));
    run("26: see, the first", told(SEVEN)).due(1, x -> x.see(6)).due(1, x -> x.count(2));
    run("26: see, the 8th", seen(told(SEVEN), 0, 0, 0, 0, 0, 0, 0)).due(8, x -> x.see(1)).due(8, x -> x.count(2))
        .due(FULL, x -> x.see(1));
    Beginning eight = seen(told(SEVEN), 0, 1, 0, 1, 1, 0, 0, 1);
    for (int y : new int[] {0, 1, 6}) leaves("26: see, the 9th is FULL, " + y, eight, x -> x.see(y), FULL);
    leaves("26: see, BAD ahead of FULL, too large", eight, x -> x.see(7), BAD);
    leaves("26: see, BAD ahead of FULL, too small", eight, x -> x.see(-1), BAD);
    run("26: see, room again behind forget", eight).due(8, x -> x.forget(7)).due(8, x -> x.see(0))
        .due(FULL, x -> x.see(0));
    bounds("27: forget, of three", 0, 3, (x, n) -> x.forget(n));
    leaves("27: forget, of none, too large", told(SEVEN), x -> x.forget(1), BAD);
    leaves("27: forget, of none, too small", told(SEVEN), x -> x.forget(-1), BAD);
    leaves("27: forget, of none", told(SEVEN), x -> x.forget(0), 0);
    leaves("27: forget, of a new object", NEW, x -> x.forget(0), 0);
    leaves("27: forget, all of eight stay", eight, x -> x.forget(8), 8);
    leaves("27: forget, of eight, too large", eight, x -> x.forget(9), BAD);
    leaves("27: forget, all stay", BUSY, x -> x.forget(3), 3);
    run("27: forget, none stays", eight).due(8, x -> x.forget(0)).due(0, x -> x.count(2)).due(127, x -> x.fits())
        .due(1, x -> x.see(5)).due(32, x -> x.fits());
    run("27: forget, the first stay", seen(told(SEVEN), 0, 1, 5)).due(0, x -> x.fits()).due(3, x -> x.forget(2))
        .due(92, x -> x.fits()).due(2, x -> x.forget(1)).due(93, x -> x.fits());
  }

  private static void fitsBounds() {
    run("28: fits, nothing is SEEN: all", told(SEVEN)).due(127, x -> x.fits());
    run("28: fits, nothing is SEEN of eight", told(EIGHT_RAW)).due(255, x -> x.fits());
    run("28: fits, the whole row", seen(told(SEVEN), 0, 1, 0, 1, 1)).due(64, x -> x.fits());
    run("28: fits, one more than the row", seen(told(SEVEN), 0, 1, 0, 1, 1, 0)).due(0, x -> x.fits());
    run("28: fits, the last one is another", seen(told(SEVEN), 0, 1, 0, 1, 0)).due(0, x -> x.fits());
    run("28: fits, the first one is another", seen(told(SEVEN), 1, 1)).due(0, x -> x.fits());
    run("28: fits, a raw one", seen(told(SEVEN), 1)).due(2, x -> x.fits());
    run("28: fits, a burnt one", seen(told(SEVEN), 5)).due(32, x -> x.fits());
    run("28: fits, one that never lies there in the end", seen(told(SEVEN), 2)).due(0, x -> x.fits());
    run("28: fits, eight of 128", seen(doubling("mix"), 0, 0, 0, 0, 0, 0, 0, 0)).due(248, x -> x.fits());
    run("28: fits, HALF 0 when it begins", seen(halved("salt0 1 1;"), 0)).due(5, x -> x.fits())
        .due(2, x -> x.see(1)).due(0, x -> x.fits());
    leaves("28: fits changes nothing", BUSY, x -> x.fits(), 64);
  }

  private static void pairsBounds() {
    bounds("29: pairs, what", 0, 1, (x, what) -> x.pairs(what));
    run("29: pairs, nothing is SEEN", told(SEVEN)).due(0, x -> x.pairs(0)).due(NONE, x -> x.pairs(1));
    run("29: pairs, one is too few", seen(told(SEVEN), 0)).due(0, x -> x.pairs(0)).due(NONE, x -> x.pairs(1));
    run("29: pairs, of one, twice it", seen(told(SEVEN), 0, 0)).due(1, x -> x.pairs(0)).due(0, x -> x.pairs(1));
    run("29: pairs, the lesser ahead", seen(told(SEVEN), 5, 1)).due(1, x -> x.pairs(0)).due(15, x -> x.pairs(1));
    run("29: pairs, the last twice", seen(told(EIGHT_RAW), 7, 7)).due(1, x -> x.pairs(0)).due(77, x -> x.pairs(1));
    run("29: pairs, in whichever order", seen(told(SEVEN), 1, 1, 0)).due(3, x -> x.pairs(0)).due(12, x -> x.pairs(1));
    run("29: pairs, one more than SEEN", seen(told(SEVEN), 0, 1, 0)).due(3, x -> x.pairs(0)).due(2, x -> x.pairs(1));
    run("29: pairs, eight", seen(doubling("mix"), 0, 0, 0, 0, 0, 0, 0, 0)).due(1, x -> x.pairs(0))
        .due(22, x -> x.pairs(1));
    run("29: pairs, seven are one less", seen(doubling("mix"), 0, 0, 0, 0, 0, 0, 0)).due(0, x -> x.pairs(0))
        .due(NONE, x -> x.pairs(1));
    run("29: pairs, as many, but others", seen(told(SEVEN), 2, 2)).due(0, x -> x.pairs(0)).due(NONE, x -> x.pairs(1));
    run("29: pairs, each begins with HALF 0", seen(halved("salt0 1 1;"), 0, 0)).due(3, x -> x.pairs(0))
        .due(0, x -> x.pairs(1));
    leaves("29: pairs changes nothing", BUSY, x -> x.pairs(0), 3);
    leaves("29: pairs, BAD ahead of NONE, too large", told(SEVEN), x -> x.pairs(2), BAD);
    leaves("29: pairs, BAD ahead of NONE, too small", told(SEVEN), x -> x.pairs(-1), BAD);
    leaves("29: pairs, there is none", seen(told(SEVEN), 2), x -> x.pairs(1), NONE);
  }

  // ---- promise 30

  /** The seed by longs, cut to 32 bits: what an int's wrap-around must come to. */
  private static long next(long seed) {
    return seed * 1103515245L + 12345L & 0xFFFFFFFFL;
  }

  private static void driftFrom(String sentence, Beginning before, int seed, int n) {
    UncookMill byHand = from(before);
    long s = seed & 0xFFFFFFFFL;
    int done = 0;
    for (int i = 0; i < n; i++) {
      s = next(s);
      int m = (int) ((s >> 16 & 0x7FFF) % byHand.rule(0));
      s = next(s);
      if (byHand.does(m + 10 * (int) ((s >> 16 & 0x7FFF) % 2)) >= 0) done++;
    }
    leaves("30: drift, " + sentence + ", how many were done", before, x -> x.drift(seed, n, 0), done);
    leaves("30: drift, " + sentence + ", things", before, x -> x.drift(seed, n, 1), byHand.count(0));
  }

  private static void driftBounds() {
    bounds("30: drift, n", 1, 60, (x, n) -> x.drift(1, n, 0));
    bounds("30: drift, what", 0, 1, (x, what) -> x.drift(1, 5, what));
    leaves("30: drift, no STUFFS", NEW, x -> x.drift(1, 1, 0), STATE);
    leaves("30: drift, behind an empty text", then(BUSY_NO_TAPE, x -> x.text()), x -> x.drift(1, 1, 1), STATE);
    leaves("30: drift, no STUFFS, BAD first by n, too small", NEW, x -> x.drift(1, 0, 0), BAD);
    leaves("30: drift, no STUFFS, BAD first by n, too large", NEW, x -> x.drift(1, 61, 0), BAD);
    leaves("30: drift, no STUFFS, BAD first by what", NEW, x -> x.drift(1, 1, 2), BAD);
    for (int seed : new int[] {0, 1, -1, MIN, MAX, 65535, 65536, -65536, 2147418112}) {
      driftFrom("seed " + seed + ", once", BUSY, seed, 1);
      driftFrom("seed " + seed + ", 60 times", BUSY, seed, 60);
    }
    driftFrom("one STUFF", told("raw1 1;have0 7;"), 5, 60);
    driftFrom("nothing there", told(EIGHT_RAW), 5, 60);
    driftFrom("eight STUFFS", then(doubling("mix"), x -> x.fill(7, 9)), 5, 60);
    driftFrom("eight STUFFS at 40", then(doubling("salt"), x -> fillAll(x, 40)), 77, 60);
    driftFrom("HALF 1", halved("salt0 1 1;", 0, 0, 9), 3, 60);
  }

  public static void main(String[] args) {
    bestBounds();
    leastBounds();
    seenBounds();
    fitsBounds();
    pairsBounds();
    driftBounds();
    end("BoundsOfSearchTest");
  }
}
