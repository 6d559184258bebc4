// Boundaries of promises 31 to 37: IMAGES, SHEETS.
public final class BoundsOfSheetsTest extends Cases {
  // ---- promises 31 and 32: IMAGES

  private static void imageBounds() {
    bounds("31: keep, k", 0, 1, (x, k) -> x.keep(k));
    bounds("32: back, k", 0, 1, (x, k) -> x.back(k));
    Beginning one = then(told(SEVEN), x -> x.keep(1));
    leaves("32: back, there is none", told(SEVEN), x -> x.back(0), STATE);
    leaves("32: back, there is but the other", one, x -> x.back(0), STATE);
    leaves("32: back, BAD where there is none", told(SEVEN), x -> x.back(2), BAD);
    run("31: keep, there was none", told(SEVEN)).due(0, x -> x.keep(0)).due(1, x -> x.count(3));
    run("31: keep, there was one", one).due(1, x -> x.keep(1)).due(1, x -> x.count(3));
    run("31: keep, there was but the other", one).due(0, x -> x.keep(0)).due(2, x -> x.count(3));
    run("31: keep, of no STUFFS", NEW).due(0, x -> x.keep(0)).due(1, x -> x.keep(0)).due(0, x -> x.back(0))
        .due(0, x -> x.rule(0));
    run("31: keep, the later takes the place", told(SEVEN)).due(0, x -> x.keep(0)).due(9, x -> x.fill(0, 3))
        .due(1, x -> x.keep(0)).due(3, x -> x.fill(0, 8)).due(0, x -> x.back(0)).due(3, x -> x.stuff(0, 6));
    run("32: back, again and again", one).due(9, x -> x.fill(0, 3)).due(0, x -> x.back(1))
        .due(9, x -> x.fill(0, 4)).due(0, x -> x.back(1)).due(9, x -> x.stuff(0, 6));
    alike("31, 32: keep and back at once", then(BUSY, x -> { x.keep(0); x.back(0); }), then(BUSY, x -> x.keep(0)), ALL);
    alike("31: keep changes nothing but IMAGE 0", then(BUSY, x -> x.keep(0)), BUSY, BUT_FIRST_IMAGE);
    Beginning again = x -> { x.back(0); x.keep(0); x.keep(0); };
    alike("31: keep, nothing was changed since", then(BUSY, again), then(BUSY, x -> x.back(0)), ALL);
    imageHas();
  }

  /** What is changed behind keep comes back, each by itself. */
  private static void imageHas() {
    Beginning kept = then(told(SEVEN), x -> x.keep(0));
    alike("32: back, THE PANTRY", then(kept, x -> { x.fill(0, 3); x.fill(6, 40); x.back(0); }), kept, ALL);
    alike("32: back, HALVES and DOINGS", then(kept, x -> { x.does(13); x.back(0); }), kept, ALL);
    alike("32: back, FEEDS", then(kept, x -> { x.feeds(0, 9); x.feeds(6, 0); x.back(0); }), kept, ALL);
    alike("32: back, PRICES", then(kept, x -> { x.price(0, 9); x.price(1, 0); x.back(0); }), kept, ALL);
    run("32: back, PRICES by cost", then(kept, x -> { x.price(0, 9); x.price(1, 0); x.back(0); }))
        .due(2, x -> x.cost(0)).due(3, x -> x.cost(1));
    alike("32: back, KINDS", then(kept, x -> { x.kind(2, 2); x.kind(6, 1); x.back(0); }), kept, ALL);
    alike("32: back, FED", then(kept, x -> { x.eat(1); x.back(0); }), kept, ALL);
    alike("32: back, what was SEEN, none", then(kept, x -> { x.see(1); x.back(0); }), kept, ALL);
    Beginning eight = seen(told(SEVEN), 0, 1, 0, 1, 1, 0, 0, 1);
    Beginning others = x -> { x.keep(0); x.forget(3); x.see(6); x.see(5); x.back(0); };
    alike("32: back, what was SEEN, eight", then(eight, others), then(eight, x -> x.keep(0)), ALL);
    Beginning from1 = x -> { x.keep(1); x.forget(0); x.see(1); x.see(5); x.see(0); x.back(1); };
    run("32: back, what was SEEN, in order", then(seen(told(SEVEN), 5, 1), from1)).due(2, x -> x.count(2))
        .due(0, x -> x.fits()).due(2, x -> x.forget(1)).due(32, x -> x.fits());
    run("32: back answers FED of the IMAGE", told(SEVEN)).due(5, x -> x.eat(1)).due(0, x -> x.keep(1))
        .due(10, x -> x.eat(1)).due(5, x -> x.back(1)).due(5, x -> x.rule(1));
    run("32: back leaves THE TAPE", BUSY).due(5, x -> x.back(0)).due(18, x -> x.count(4));
    run("32: back leaves SHEETS", BUSY).due(5, x -> x.back(0)).due(4, x -> x.count(5)).due(1, x -> x.lay(1, 2, 1))
        .due(-12, x -> x.lay(2, 2, 1)).due(-11, x -> x.lay(3, 0, 1));
    run("32: back leaves both FAULTS", BUSY).due(5, x -> x.back(0)).due(1, x -> x.fault()).due(2, x -> x.torn());
    run("32: back leaves the other IMAGE", BUSY).due(5, x -> x.back(0)).due(6, x -> x.back(1))
        .due(2, x -> x.rule(2)).due(5, x -> x.back(0)).due(0, x -> x.rule(2));
  }

  // ---- promises 33 to 37: SHEETS

  private static void sheetBounds() {
    bounds("33: sheet, k", 0, 3, (x, k) -> x.sheet(k, 0, 1));
    bounds("33: sheet, lane", 0, 2, (x, lane) -> x.sheet(0, lane, 1));
    leaves("33: sheet, n 41 is too large", BUSY, x -> x.sheet(0, 0, 41), BAD);
    leaves("33: sheet, n far too large", BUSY, x -> x.sheet(0, 0, MAX), BAD);
    leaves("33: sheet, n -1 is a FAULT", BUSY, x -> x.sheet(0, 0, -1), -14);
    leaves("33: sheet, n far below 0 is a FAULT", BUSY, x -> x.sheet(0, 0, MIN), -14);
    leaves("33: sheet, BAD ahead of the FAULT, k too large", BUSY, x -> x.sheet(4, 0, -1), BAD);
    leaves("33: sheet, BAD ahead of the FAULT, k too small", BUSY, x -> x.sheet(-1, 0, -1), BAD);
    leaves("33: sheet, BAD ahead of the FAULT, lane too large", BUSY, x -> x.sheet(0, 3, -1), BAD);
    leaves("33: sheet, BAD ahead of the FAULT, lane too small", BUSY, x -> x.sheet(0, -1, -1), BAD);
    leaves("33: sheet, a FAULT leaves nothing as nothing", BUSY, x -> x.sheet(3, 0, -1), -14);
    for (int i = 0; i < 12; i++) {
      int k = i / 3;
      int lane = i % 3;
      run("33: sheet " + k + ", no CELLS, lane " + lane, NEW).due(1, x -> x.sheet(k, lane, 0))
          .due(-12, x -> x.lay(k, 0, 1)).due(k == 0 ? 0 : NONE, x -> x.count(5));
      run("33: sheet " + k + ", 40 CELLS, lane " + lane, NEW).due(1, x -> x.sheet(k, lane, 40))
          .due(1, x -> x.lay(k, 39, 1)).due(-12, x -> x.lay(k, 40, 1)).due(k == 0 ? 40 : NONE, x -> x.count(5));
    }
    Beginning laid = then(there("mix0 1 1;", 9, 9, 9), x -> { x.sheet(1, 1, 3); x.lay(1, 0, 2); x.lay(1, 2, 12); });
    run("33: sheet, a new row has CELLS 0", laid).due(1, x -> x.read(1, 1, 0, 1)).due(1, x -> x.sheet(1, 1, 3))
        .due(-20, x -> x.read(1, 1, 0, 1)).due(-20, x -> x.read(1, 1, 2, 1));
    Beginning plenty = then(doubling("mix"), x -> fillAll(x, 20));
    for (int lane = 0; lane < 3; lane++) newCells(plenty, lane);
    run("33: sheet, a new row has its lane", laid).due(1, x -> x.sheet(1, 0, 3)).due(0, x -> x.read(1, 1, 0, 1))
        .due(3, x -> x.torn()).due(-20, x -> x.read(1, 0, 0, 1));
    run("33: sheet, a new row has its length", laid).due(1, x -> x.sheet(1, 1, 2)).due(-12, x -> x.lay(1, 2, 1))
        .due(1, x -> x.sheet(1, 1, 4)).due(1, x -> x.lay(1, 3, 1));
    run("33: sheet, the others stay", laid).due(1, x -> x.sheet(0, 1, 3)).due(1, x -> x.sheet(2, 1, 3))
        .due(1, x -> x.read(1, 1, 0, 1)).due(1, x -> x.read(1, 1, 2, 1));
  }

  /** No DOING but that of STUFF 0, which is raw, would be refused. */
  private static void newCells(Beginning plenty, int lane) {
    Beginning row = then(plenty, x -> x.sheet(2, lane, 40));
    for (int i = 0; i < 40; i += 13) {
      int at = i;
      leaves("33: sheet, new CELL " + at + " of lane " + lane + " is 0", row, x -> x.read(2, lane, at, 1), -20);
      Beginning again = then(row, x -> { x.lay(2, at, 17); x.sheet(2, lane, 40); });
      leaves("33: sheet, CELL " + at + " of lane " + lane + " is 0 again", again, x -> x.read(2, lane, at, 1), -20);
    }
    run("33: sheet, all but 0 would be done", row).due(1, x -> x.lay(2, 0, 1)).due(1, x -> x.read(2, lane, 0, 1))
        .due(1, x -> x.lay(2, 0, 17)).due(1, x -> x.read(2, lane, 0, 1));
  }

  private static void layBounds() {
    bounds("34: lay, k", 0, 3, (x, k) -> x.lay(k, 0, 1));
    for (int i : new int[] {-1, 4, MIN, MAX}) leaves("34: lay, there is no CELL " + i, BUSY, x -> x.lay(0, i, 1), -12);
    for (int i : new int[] {-1, 0, 40}) leaves("34: lay, nothing has no CELL " + i, BUSY, x -> x.lay(3, i, 1), -11);
    leaves("34: lay, BAD ahead of NULL", NEW, x -> x.lay(4, 0, 1), BAD);
    leaves("34: lay, a row of no CELLS", then(BUSY, x -> x.sheet(3, 2, 0)), x -> x.lay(3, 0, 1), -12);
    run("34: lay, the first CELL", BUSY).due(1, x -> x.lay(1, 0, 1));
    run("34: lay, the last CELL", BUSY).due(1, x -> x.lay(1, 2, 1)).due(-12, x -> x.lay(1, 3, 1));
    leaves("34: lay, what there was", BUSY, x -> x.lay(0, 1, 13), 1);
    int[][] laid = {{0, 2, 1}, {0, 258, 1}, {0, 2 - 256, 1}, {0, 65538, 1}, {0, MIN + 2, 1}, {0, 130, -20},
        {0, 2 - 128, -20}, {0, 257, -20}, {0, MAX, -20}, {1, 2, 1}, {1, 258, -20}, {1, 65538, 1}, {1, 2 - 65536, 1},
        {1, MIN + 2, 1}, {1, 32770, -20}, {1, 2 - 256, -20}, {2, 2, 1}, {2, 258, -20}, {2, 65538, -20}, {2, MIN + 2, -20},
        {2, 2 - 256, -20}, {2, 2 - 65536, -20}};
    for (int[] t : laid) {
      Beginning before = then(there("mix0 1 1;", 9, 9, 9), x -> x.sheet(0, t[0], 1));
      run("34: lay, the lowest bits of " + t[1] + " in lane " + t[0], before).due(1, x -> x.lay(0, 0, t[1]))
          .due(t[2], x -> x.read(0, t[0], 0, 1)).due(t[2] == 1 ? 1 : 0, x -> x.rule(2));
    }
  }

  /** SHEET k of a lane with n CELLS, all alike. */
  private static Beginning rowOf(Beginning before, int k, int lane, int n, int doing) {
    return then(before, x -> {
      x.sheet(k, lane, n);
      for (int i = 0; i < n; i++) x.lay(k, i, doing);
    });
  }

  private static void readBounds() {
    Beginning twenty = rowOf(there("mix0 1 1;", 40, 40, 0), 0, 0, 40, 2);
    run("35: read, 20 DOINGS", twenty).due(20, x -> x.read(0, 0, 0, 20)).due(20, x -> x.stuff(2, 6))
        .due(20, x -> x.rule(2)).due(20, x -> x.read(0, 0, 20, 20)).due(40, x -> x.stuff(2, 6));
    run("35: read, one DOING", twenty).due(1, x -> x.read(0, 0, 39, 1)).due(1, x -> x.stuff(2, 6))
        .due(0, x -> x.torn());
    run("35: read, no DOING", twenty).due(0, x -> x.read(0, 0, 0, 0)).due(0, x -> x.rule(2)).due(0, x -> x.torn());
    bounds("35: read, k", 0, 3, (x, k) -> x.read(k, 0, 0, 1));
    bounds("35: read, lane", 0, 2, (x, lane) -> x.read(0, lane, 0, 1));
    bounds("35: read, n", 0, 20, (x, n) -> x.read(0, 0, 0, n));
    leaves("35: read, BAD of nothing", NEW, x -> x.read(0, 0, 0, 21), BAD);
    leaves("35: read, k BAD ahead of a FAULT", BUSY, x -> x.read(4, 0, -1, 1), BAD);
    leaves("35: read, lane BAD ahead of NULL", BUSY, x -> x.read(3, 3, -1, 1), BAD);
    leaves("35: read, n BAD ahead of CAST", BUSY, x -> x.read(0, 1, 0, 21), BAD);
    readNone();
    readFaults();
    readRefused();
  }

  /** Where n is 0 no CELL is read, so the machine finds no FAULT: a choice that the document leaves (NOTES.md). */
  private static void readNone() {
    run("35: read, no DOING of nothing", BUSY).due(0, x -> x.read(3, 0, 0, 0)).due(0, x -> x.torn());
    run("35: read, no DOING as of another lane", BUSY).due(0, x -> x.read(0, 1, 0, 0)).due(0, x -> x.torn());
    run("35: read, no DOING at no CELL", BUSY).due(0, x -> x.read(0, 0, 40, 0)).due(0, x -> x.torn());
    torn("no DOING changes nothing but torn()", BUSY, x -> x.read(0, 0, 0, 0), 0);
  }

  /** What the machine refuses at once: none was done, and torn() tells the FAULT. */
  private static void torn(String sentence, Beginning before, Call call, int fault) {
    run("35, 36: read, " + sentence, before).due(0, call).due(fault, x -> x.torn());
    Beginning torn = then(before, x -> x.read(3, 0, 0, 1));
    alike("35: read, " + sentence, then(then(before, x -> call.on(x)), x -> x.read(3, 0, 0, 1)), torn, ALL);
  }

  private static void readFaults() {
    torn("nothing is NULL", BUSY, x -> x.read(3, 0, 0, 1), 1);
    torn("nothing, of another lane, is NULL", BUSY, x -> x.read(3, 2, 0, 20), 1);
    torn("nothing, at no CELL, is NULL", BUSY, x -> x.read(3, 0, -1, 1), 1);
    for (int f : new int[] {-1, 4, 5, 40, MIN, MAX})
      torn("no CELL " + f + " is INDEX", BUSY, x -> x.read(0, 0, f, 1), 2);
    torn("from the last int on is INDEX", BUSY, x -> x.read(0, 0, MAX, 20), 2);
    torn("from just below 0 on is INDEX", BUSY, x -> x.read(0, 0, -1, 20), 2);
    torn("from the least int on is INDEX", BUSY, x -> x.read(0, 0, MIN, 20), 2);
    torn("a row of no CELLS is INDEX", then(BUSY, x -> x.sheet(1, 1, 0)), x -> x.read(1, 1, 0, 1), 2);
    for (int i = 0; i < 9; i++) {
      int k = i / 3;
      int lane = i % 3;
      if (k == lane) continue;
      torn("SHEET " + k + " as of lane " + lane + " is CAST", BUSY, x -> x.read(k, lane, 0, 1), 3);
      torn("SHEET " + k + " as of lane " + lane + ", at no CELL, is CAST", BUSY, x -> x.read(k, lane, 40, 1), 3);
    }
    Beginning two = rowOf(there("mix0 1 1;", 9, 9, 0), 1, 1, 2, 2);
    run("35: read, INDEX behind the last CELL: those ahead were", two).due(2, x -> x.read(1, 1, 0, 3))
        .due(2, x -> x.torn()).due(2, x -> x.rule(2)).due(2, x -> x.stuff(2, 6)).due(7, x -> x.stuff(0, 6));
    run("35: read, INDEX behind the last CELL, 20", two).due(1, x -> x.read(1, 1, 1, 20)).due(2, x -> x.torn())
        .due(1, x -> x.rule(2));
    Beginning nineteen = rowOf(there("mix0 1 1;", 40, 40, 0), 2, 2, 19, 2);
    run("35: read, INDEX at the last of 20", nineteen).due(19, x -> x.read(2, 2, 0, 20)).due(2, x -> x.torn())
        .due(19, x -> x.rule(2));
    run("35: read, up to the last CELL", two).due(2, x -> x.read(1, 1, 0, 2)).due(0, x -> x.torn());
  }

  private static void readRefused() {
    Beginning few = rowOf(there("mix0 1 1;", 9, 9, 0), 0, 2, 40, 2);
    for (int i = 0; i < 20; i++) {
      int at = i;
      Beginning before = then(rowOf(there("mix0 1 1;", 40, 40, 0), 0, 0, 20, 2), x -> x.lay(0, at, 9));
      leaves("35: read, the " + at + "-th is refused", before, x -> x.read(0, 0, 0, 20), -20 - at);
    }
    leaves("35: read, counted from f on", then(few, x -> x.lay(0, 7, 99)), x -> x.read(0, 2, 5, 4), -22);
    leaves("35: read, refused by STATE: too few are there", few, x -> x.read(0, 2, 0, 10), -29);
    run("35: read, as many as are there", few).due(9, x -> x.read(0, 2, 0, 9)).due(9, x -> x.rule(2));
    Beginning brim = rowOf(there("mix0 1 1;", 9, 9, 39), 0, 2, 40, 2);
    leaves("35: read, refused by STATE: more than 40", brim, x -> x.read(0, 2, 0, 2), -21);
    leaves("35: read, refused by STATE: raw", BUSY, x -> x.read(1, 1, 1, 1), -20);
    for (int d : new int[] {-1, 3, 8, 9, 13, 18, MIN, MAX})
      leaves("35: read, no DOING " + d, then(few, x -> x.lay(0, 0, d)), x -> x.read(0, 2, 0, 1), -20);
    Beginning salts = rowOf(halved("salt0 1 1;", 0, 0, 2), 0, 0, 3, 12);
    leaves("35: read, HALVES too are as they were", salts, x -> x.read(0, 0, 0, 3), -22);
    run("35: read, each by what the one ahead left", rowOf(there("salt0 1 1;", 0, 0, 2), 0, 0, 2, 12))
        .due(2, x -> x.read(0, 0, 0, 2)).due(1, x -> x.stuff(1, 6)).due(0, x -> x.stuff(2, 5));
    Beginning both = then(rowOf(there("mix0 1 1;", 9, 9, 0), 0, 0, 3, 2), x -> x.lay(0, 2, 9));
    leaves("35: read, refused ahead of INDEX: the first met", both, x -> x.read(0, 0, 0, 4), -22);
    run("35: read, INDEX ahead of any more: the first met", both).due(2, x -> x.read(0, 0, 0, 2))
        .due(0, x -> x.torn()).due(STATE, x -> x.does(1)).due(-20, x -> x.read(0, 0, 2, 2));
    leaves("35: read, refused behind three that could be done", BUSY, x -> x.read(0, 0, 0, 4), -23);
  }

  private static void tornAndCountBounds() {
    run("36: torn, BAD is no end", BUSY).due(BAD, x -> x.read(4, 0, 0, 1)).due(2, x -> x.torn());
    run("36: torn, refused is no end", BUSY).due(-20, x -> x.read(1, 1, 1, 1)).due(2, x -> x.torn());
    run("36: torn, no FAULT", BUSY).due(1, x -> x.read(0, 0, 0, 1)).due(0, x -> x.torn());
    run("36: torn, of read alone: lay", BUSY).due(-11, x -> x.lay(3, 0, 0)).due(2, x -> x.torn());
    run("36: torn, of read alone: sheet", BUSY).due(-14, x -> x.sheet(0, 0, -1)).due(2, x -> x.torn());
    run("36: torn, of read alone: text", BUSY).due(2, x -> x.text()).due(2, x -> x.torn());
    run("36: torn, of read alone: back", BUSY).due(6, x -> x.back(1)).due(2, x -> x.torn());
    leaves("36: torn changes nothing", BUSY, x -> x.torn(), 2);
    leaves("37: count, BAD ahead of NONE", NEW, x -> x.count(6), BAD);
    bounds("37: count, what", 0, 5, (x, what) -> x.count(what));
    run("37: count, things, the most", then(told(EIGHT_RAW), x -> fillAll(x, 40))).due(320, x -> x.count(0))
        .due(320, x -> x.count(1));
    Beginning nines = then(told(EIGHT_RAW), x -> {
      fillAll(x, 40);
      for (int m = 0; m < 8; m++) x.feeds(m, 9);
    });
    run("37: count, FEEDS, the most", nines).due(2880, x -> x.count(1));
    run("37: count, FEEDS 0", told("raw1 0;have0 40;")).due(40, x -> x.count(0)).due(0, x -> x.count(1));
    run("37: count, SEEN, the most", seen(told(SEVEN), 0, 1, 0, 1, 1, 0, 0, 1)).due(8, x -> x.count(2))
        .due(FULL, x -> x.see(0)).due(8, x -> x.count(2));
    run("37: count, IMAGES", told(SEVEN)).due(0, x -> x.count(3)).due(0, x -> x.keep(1)).due(1, x -> x.count(3))
        .due(0, x -> x.keep(0)).due(2, x -> x.count(3));
    run("37: count, bytes, the most", BRIM).due(160, x -> x.count(4));
    Beginning others = x -> { x.sheet(1, 0, 3); x.sheet(2, 0, 3); x.sheet(3, 0, 3); };
    run("37: count, SHEET 0 is nothing, whatever the others are", others).due(NONE, x -> x.count(5));
    run("37: count, SHEET 0 has no CELLS", x -> x.sheet(0, 0, 0)).due(0, x -> x.count(5));
    run("37: count, SHEET 0 has 40 CELLS", x -> x.sheet(0, 2, 40)).due(40, x -> x.count(5));
  }

  public static void main(String[] args) {
    imageBounds();
    sheetBounds();
    layBounds();
    readBounds();
    tornAndCountBounds();
    end("BoundsOfSheetsTest");
  }
}
