// Boundaries of promises 6 to 17: what is told and changed, DOINGS, meals, what can be cooked.
public final class BoundsOfKitchenTest extends Cases {
  // ---- promises 6 and 7

  private static void ruleAndStuffBounds() {
    bounds("6: rule, what", 0, 4, (x, what) -> x.rule(what));
    run("6: rule, raw STUFFS, all of eight", told(EIGHT_RAW)).due(255, x -> x.rule(3)).due(8, x -> x.rule(0));
    run("6: rule, STUFFS that are there, none of eight", told(EIGHT_RAW)).due(0, x -> x.rule(4));
    run("6: rule, one of a STUFF is there", told(EIGHT_RAW + "have 7 1;have 3 0;have 0 40;")).due(129, x -> x.rule(4));
    run("6: rule, raw but for the last", there("mix0 1 1;")).due(3, x -> x.rule(3)).due(3, x -> x.rule(0));
    bounds("7: stuff, m", 0, 6, (x, m) -> x.stuff(m, 0));
    bounds("7: stuff, what", 0, 6, (x, what) -> x.stuff(5, what));
    bounds("7: stuff, what of a raw one", 0, 6, (x, what) -> x.stuff(0, what));
    run("7: stuff, a raw one has no PARTS", told(SEVEN)).due(NONE, x -> x.stuff(1, 1))
        .due(NONE, x -> x.stuff(1, 2)).due(3, x -> x.stuff(1, 4));
    run("7: stuff, a made one has no PRICE", told(SEVEN)).due(NONE, x -> x.stuff(2, 4)).due(0, x -> x.stuff(2, 1))
        .due(1, x -> x.stuff(2, 2));
    run("7: stuff, KINDS", told(SEVEN)).due(4, x -> x.stuff(0, 0)).due(0, x -> x.stuff(2, 0))
        .due(3, x -> x.stuff(3, 0)).due(1, x -> x.stuff(4, 0)).due(2, x -> x.stuff(5, 0));
  }

  // ---- promises 8 to 11

  private static void changeBounds() {
    bounds("8: fill, m", 0, 6, (x, m) -> x.fill(m, 1));
    bounds("8: fill, n", 0, 40, (x, n) -> x.fill(2, n));
    run("8: fill, to the least", told(SEVEN)).due(9, x -> x.fill(0, 0)).due(0, x -> x.stuff(0, 6))
        .due(0, x -> x.fill(0, 1));
    run("8: fill, to the most", told(SEVEN)).due(9, x -> x.fill(0, 40)).due(40, x -> x.stuff(0, 6))
        .due(40, x -> x.fill(0, 1));
    run("8: fill, is no DOING and no meal", told(SEVEN)).due(0, x -> x.fill(5, 3)).due(0, x -> x.rule(1))
        .due(0, x -> x.rule(2)).due(27, x -> x.count(0));
    leaves("8: fill, as many as there were", BUSY, x -> x.fill(0, 6), 6);
    bounds("9: feeds, m", 0, 6, (x, m) -> x.feeds(m, 1));
    bounds("9: feeds, v of a raw one", 0, 9, (x, v) -> x.feeds(0, v));
    bounds("9: feeds, v of a made one", 0, 9, (x, v) -> x.feeds(5, v));
    run("9: feeds, to the least", told(SEVEN)).due(9, x -> x.feeds(4, 0)).due(0, x -> x.stuff(4, 3))
        .due(0, x -> x.feeds(4, 1));
    run("9: feeds, to the most", told(SEVEN)).due(4, x -> x.feeds(2, 9)).due(9, x -> x.stuff(2, 3))
        .due(9, x -> x.feeds(2, 1));
    bounds("10: price, v", 0, 9, (x, v) -> x.price(0, v));
    bounds("10: price, m", 0, 6, (x, m) -> x.price(m, 1));
    run("10: price, to the least", told(SEVEN)).due(3, x -> x.price(1, 0)).due(0, x -> x.stuff(1, 4))
        .due(0, x -> x.price(1, 1));
    run("10: price, to the most", told(SEVEN)).due(2, x -> x.price(0, 9)).due(9, x -> x.stuff(0, 4))
        .due(9, x -> x.price(0, 1));
    for (int i = 2; i < 7; i++) {
      int m = i;
      leaves("10: price of a made one, " + m, BUSY, x -> x.price(m, 1), STATE);
      leaves("10: price of a made one, " + m + ", BAD first, too large", BUSY, x -> x.price(m, 10), BAD);
      leaves("10: price of a made one, " + m + ", BAD first, too small", BUSY, x -> x.price(m, -1), BAD);
    }
  }

  /** What is changed and changed back leaves no trace: nothing else went with it. */
  private static void changedAndBack() {
    alike("2, 3: feed and end", then(BUSY, x -> { x.feed('x'); x.end(18); }), BUSY, ALL);
    alike("8: fill and fill", then(BUSY, x -> { x.fill(0, 40); x.fill(0, 6); }), BUSY, ALL);
    alike("9: feeds and feeds", then(BUSY, x -> { x.feeds(0, 9); x.feeds(0, 1); }), BUSY, ALL);
    alike("10: price and price", then(BUSY, x -> { x.price(0, 9); x.price(0, 7); }), BUSY, ALL);
    for (int m = 2; m < 7; m++) kindAndKind(m);
    alike("26, 27: see and forget", then(BUSY, x -> { x.see(5); x.forget(3); }), BUSY, ALL);
    alike("34: lay and lay", then(BUSY, x -> { x.lay(0, 0, 9); x.lay(0, 0, 2); }), BUSY, ALL);
    Beginning asItWas = x -> { x.sheet(2, 0, 40); x.sheet(2, 2, 2); x.lay(2, 0, 13); x.lay(2, 1, 3); };
    alike("33: sheet, as it was", then(BUSY, asItWas), BUSY, ALL);
    Beginning toldTwice = then(told("raw1 1;"), told(SEVEN));
    alike("4: text, told anew", then(BUSY_NO_TAPE, told(SEVEN)), then(BUSY_NO_TAPE, toldTwice), ALL);
  }

  private static void kindAndKind(int m) {
    int kind = from(BUSY).stuff(m, 0);
    for (int i = 0; i < 4; i++) {
      int k = i;
      alike("11: kind " + k + " and kind of " + m, then(BUSY, x -> { x.kind(m, k); x.kind(m, kind); }), BUSY, ALL);
    }
  }

  private static void kindBounds() {
    bounds("11: kind, k", 0, 3, (x, k) -> x.kind(5, k));
    bounds("11: kind, m", 0, 6, (x, m) -> x.kind(m, 1));
    for (int i = 0; i < 2; i++) {
      int m = i;
      leaves("11: kind of a raw one, " + m, BUSY, x -> x.kind(m, 0), STATE);
      leaves("11: kind of a raw one, " + m + ", BAD first, too large", BUSY, x -> x.kind(m, 4), BAD);
      leaves("11: kind of a raw one, " + m + ", BAD first, too small", BUSY, x -> x.kind(m, -1), BAD);
    }
    for (int i = 0; i < 4; i++) {
      int k = i;
      run("11: kind " + k, there("burn0 1 1;")).due(2, x -> x.kind(2, k)).due(k, x -> x.stuff(2, 0))
          .due(k, x -> x.kind(2, 2));
    }
    leaves("11: kind, of which it was", BUSY, x -> x.kind(3, 3), 3);
    run("11: kind leaves HALF", halved("salt0 1 1;", 0, 0, 2)).due(3, x -> x.kind(2, 0)).due(1, x -> x.stuff(2, 5))
        .due(0, x -> x.kind(2, 3)).due(1, x -> x.does(12)).due(1, x -> x.stuff(1, 6));
  }

  // ---- promises 12 to 14: DOINGS

  private static void doingNumbers() {
    Beginning eight = told(EIGHT_RAW.substring(7) + "mix0 1 1;have0 2;have1 2;have7 1;");
    for (int d : new int[] {-1, 8, 9, 18, 19, 20, 107, MIN, MAX})
      leaves("12: does, there is no DOING " + d, eight, x -> x.does(d), BAD);
    for (int d : new int[] {0, 6, 10, 16})
      leaves("12: does, STUFF of DOING " + d + " is raw", eight, x -> x.does(d), STATE);
    run("12: does, the last STUFF is cooked", eight).due(2, x -> x.does(7));
    run("12: does, the last STUFF is TURNED", eight).due(0, x -> x.does(17));
    for (int d : new int[] {7, 17, 18, -7, 14 - 256, 65538})
      leaves("12: does, of seven STUFFS, DOING " + d, BUSY, x -> x.does(d), BAD);
  }

  private static void cookingBounds() {
    for (String kind : NAMES) {
      String line = kind + "0 1 1;";
      run("12: cooked of the last A and B, " + kind, there(line, 1, 1, 0)).due(1, x -> x.does(2))
          .due(0, x -> x.stuff(0, 6)).due(0, x -> x.stuff(1, 6)).due(1, x -> x.rule(2)).due(0, x -> x.rule(1))
          .due(0, x -> x.stuff(2, 5));
      leaves("12: cooked, no A, " + kind, there(line, 0, 1, 0), x -> x.does(2), STATE);
      leaves("12: cooked, no B, " + kind, there(line, 1, 0, 0), x -> x.does(2), STATE);
      leaves("12: cooked, neither, " + kind, there(line, 0, 0, 1), x -> x.does(2), STATE);
      leaves("12: cooked, 40 there, " + kind, there(line, 1, 1, 40), x -> x.does(2), STATE);
      run("12: cooked, 39 there, " + kind, there(line, 1, 1, 39)).due(40, x -> x.does(2)).due(STATE, x -> x.does(2));
      run("12: cooked, 40 of A and B, " + kind, there(line, 40, 40, 0)).due(1, x -> x.does(2))
          .due(39, x -> x.stuff(0, 6)).due(39, x -> x.stuff(1, 6));
      String alike = kind + "0 0 1;";
      run("12: cooked of the last two alike, " + kind, there(alike, 2, 0, 0)).due(1, x -> x.does(2))
          .due(0, x -> x.stuff(0, 6));
      run("12: cooked of two of three alike, " + kind, there(alike, 3, 0, 0)).due(1, x -> x.does(2))
          .due(1, x -> x.stuff(0, 6));
      leaves("12: cooked, one of two alike, " + kind, there(alike, 1, 9, 0), x -> x.does(2), STATE);
      leaves("12: cooked, none of two alike, " + kind, there(alike, 0, 9, 0), x -> x.does(2), STATE);
    }
  }

  private static void turningBounds() {
    for (String kind : new String[] {"mix", "boil", "salt"}) {
      leaves("12: TURNED, none there, " + kind, there(kind + "0 1 1;", 1, 1, 0), x -> x.does(12), STATE);
      leaves("12: TURNED, A 40, " + kind, there(kind + "0 1 1;", 40, 1, 1), x -> x.does(12), STATE);
      run("12: TURNED, A 39, " + kind, there(kind + "0 1 1;", 39, 1, 1)).due(0, x -> x.does(12))
          .due(40, x -> x.stuff(0, 6)).due(1, x -> x.rule(2));
      run("12: TURNED, of 40, " + kind, there(kind + "0 1 1;", 0, 0, 40)).due(39, x -> x.does(12))
          .due(1, x -> x.stuff(0, 6)).due(0, x -> x.rule(1));
      leaves("12: TURNED, alike, 40, " + kind, there(kind + "0 0 1;", 40, 0, 1), x -> x.does(12), STATE);
    }
    leaves("12: TURNED, burnt", there("burn0 1 1;", 1, 1, 1), x -> x.does(12), STATE);
    leaves("12: TURNED, B 40, mixed", there("mix0 1 1;", 1, 40, 1), x -> x.does(12), STATE);
    run("12: TURNED, B 39, mixed", there("mix0 1 1;", 0, 39, 1)).due(0, x -> x.does(12))
        .due(40, x -> x.stuff(1, 6)).due(1, x -> x.stuff(0, 6));
    run("12: TURNED, B 40, boiled", there("boil0 1 1;", 0, 40, 1)).due(0, x -> x.does(12))
        .due(40, x -> x.stuff(1, 6)).due(1, x -> x.stuff(0, 6));
    run("12: TURNED, B 40, salted, HALF 0", there("salt0 1 1;", 0, 40, 1)).due(0, x -> x.does(12))
        .due(40, x -> x.stuff(1, 6)).due(1, x -> x.stuff(2, 5));
    leaves("12: TURNED, B 40, salted, HALF 1", halved("salt0 1 1;", 0, 40, 1), x -> x.does(12), STATE);
    leaves("12: TURNED, A 40, salted, HALF 1", halved("salt0 1 1;", 40, 0, 1), x -> x.does(12), STATE);
    run("12: TURNED, B 39, salted, HALF 1", halved("salt0 1 1;", 0, 39, 1)).due(0, x -> x.does(12))
        .due(40, x -> x.stuff(1, 6)).due(0, x -> x.stuff(2, 5));
    leaves("12: TURNED, alike, 39, mixed", there("mix0 0 1;", 39, 0, 1), x -> x.does(12), STATE);
    run("12: TURNED, alike, 38, mixed", there("mix0 0 1;", 38, 0, 1)).due(0, x -> x.does(12))
        .due(40, x -> x.stuff(0, 6));
    run("12: TURNED, alike, 39, boiled", there("boil0 0 1;", 39, 0, 1)).due(0, x -> x.does(12))
        .due(40, x -> x.stuff(0, 6));
    run("12: TURNED, alike, 39, salted, HALF 0", there("salt0 0 1;", 39, 0, 1)).due(0, x -> x.does(12))
        .due(40, x -> x.stuff(0, 6));
    leaves("12: TURNED, alike, 39, salted, HALF 1", halved("salt0 0 1;", 39, 0, 1), x -> x.does(12), STATE);
    run("12: TURNED, alike, 38, salted, HALF 1", halved("salt0 0 1;", 38, 0, 1)).due(0, x -> x.does(12))
        .due(40, x -> x.stuff(0, 6));
    halves();
  }

  private static void halves() {
    run("terms: every other salt comes back", there("salt0 1 1;", 0, 0, 4)).due(3, x -> x.does(12))
        .due(0, x -> x.stuff(1, 6)).due(1, x -> x.stuff(2, 5)).due(2, x -> x.does(12)).due(1, x -> x.stuff(1, 6))
        .due(0, x -> x.stuff(2, 5)).due(1, x -> x.does(12)).due(1, x -> x.stuff(1, 6)).due(0, x -> x.does(12))
        .due(2, x -> x.stuff(1, 6)).due(4, x -> x.stuff(0, 6)).due(4, x -> x.rule(2));
    run("terms: mixed leaves HALF", there("mix0 1 1;", 0, 0, 4)).due(3, x -> x.does(12)).due(0, x -> x.stuff(2, 5));
    run("terms: boiled leaves HALF", there("boil0 1 1;", 0, 0, 4)).due(3, x -> x.does(12)).due(0, x -> x.stuff(2, 5));
    run("terms: cooking leaves HALF", halved("salt0 1 1;", 1, 1, 0)).due(1, x -> x.does(2)).due(1, x -> x.stuff(2, 5));
    run("terms: each STUFF has its own HALF", there("salt0 1 1;salt0 1 1;", 0, 0, 2, 2)).due(1, x -> x.does(12))
        .due(1, x -> x.stuff(2, 5)).due(0, x -> x.stuff(3, 5)).due(1, x -> x.does(13)).due(0, x -> x.stuff(1, 6))
        .due(0, x -> x.does(12)).due(1, x -> x.stuff(1, 6)).due(0, x -> x.stuff(2, 5)).due(1, x -> x.stuff(3, 5));
  }

  private static void eatBounds() {
    bounds("13: eat, m", 0, 6, (x, m) -> x.eat(m));
    leaves("13: eat, there is none", there("mix0 1 1;", 3, 0, 0), x -> x.eat(1), STATE);
    leaves("13: eat, there is none that is made", there("mix0 1 1;", 3, 3, 0), x -> x.eat(2), STATE);
    run("13: eat, the last one", there("mix0 1 7;", 0, 0, 1)).due(7, x -> x.eat(2)).due(0, x -> x.stuff(2, 6))
        .due(STATE, x -> x.eat(2)).due(7, x -> x.rule(1));
    run("13: eat, one of 40", there("mix0 1 9;", 0, 0, 40)).due(9, x -> x.eat(2)).due(39, x -> x.stuff(2, 6))
        .due(18, x -> x.eat(2));
    run("13: eat, FEEDS 0", there("burn0 1 0;", 0, 0, 2)).due(0, x -> x.eat(2)).due(1, x -> x.stuff(2, 6))
        .due(0, x -> x.rule(1));
    run("13: eat is no DOING", there("mix0 1 1;", 1, 1, 1)).due(1, x -> x.eat(0)).due(0, x -> x.rule(2))
        .due(0, x -> x.stuff(2, 5)).due(2, x -> x.count(0));
    Run many = run("13: eat, FED has no bound that is told", there("mix0 1 9;", 0, 0, 40));
    for (int i = 1; i <= 40; i++) many.due(9 * i, x -> x.eat(2));
    many.due(0, x -> x.fill(2, 40)).due(369, x -> x.eat(2)).due(369, x -> x.rule(1));
  }

  private static void canBounds() {
    bounds("14: can, what", 0, 1, (x, what) -> x.can(what));
    leaves("14: can changes nothing, cooked", BUSY, x -> x.can(0), 92);
    leaves("14: can changes nothing, TURNED", BUSY, x -> x.can(1), 12);
    run("14: can, STUFF 7", told(EIGHT_RAW.substring(7) + "mix0 1 1;have0 1;have1 1;have7 1;"))
        .due(128, x -> x.can(0)).due(128, x -> x.can(1));
    int[] few = {0, 1, 2, 38, 39, 40};
    for (int kind = 0; kind < 4; kind++)
      for (int half = 0; half < (kind == SALTED ? 2 : 1); half++)
        for (int b = 0; b < 2; b++)
          for (int p : few)
            for (int q : few)
              for (int r : few) canAsDoes(kind, half, b, p, q, r);
  }

  /** THE PANTRY behind a DOING on STUFF 2 of 0 and b, as the document tells it; null: it can not be done. */
  private static int[] behind(boolean turned, int kind, int half, int b, int[] n) {
    int[] then = n.clone();
    if (turned && kind == BURNT) return null;
    then[2] += turned ? -1 : 1;
    then[0] += turned ? 1 : -1;
    if (!turned || kind == MIXED || kind == SALTED && half == 1) then[b] += turned ? 1 : -1;
    for (int i : then) if (i < 0 || i > 40) return null;
    return then;
  }

  private static void canAsDoes(int kind, int half, int b, int... n) {
    String line = NAMES[kind] + "0 " + b + " 1;";
    Beginning before = half == 1 ? halved(line, n) : there(line, n);
    String sentence = "12, 14: " + line + " HALF " + half + ", there are " + n[0] + ", " + n[1] + ", " + n[2];
    for (int i = 0; i < 2; i++) {
      int what = i;
      int[] then = behind(what == 1, kind, half, b, n);
      Run run = run(sentence, before).due(then == null ? 0 : 4, x -> x.can(what))
          .due(then == null ? STATE : then[2], x -> x.does(10 * what + 2));
      for (int m = 0; m < 3; m++) {
        int of = m;
        run.due(then == null ? n[m] : then[m], x -> x.stuff(of, 6));
      }
      run.due(half + (then == null ? 0 : 1), x -> x.rule(2));
      run.due(then != null && what == 1 && kind == SALTED ? 1 - half : half, x -> x.stuff(2, 5));
    }
  }

  // ---- promises 15 to 17

  private static void mostBounds() {
    bounds("15: most, m", 0, 6, (x, m) -> x.most(m));
    leaves("15: most, the first raw one", BUSY, x -> x.most(0), STATE);
    leaves("15: most, the last raw one", BUSY, x -> x.most(1), STATE);
    leaves("15: most changes nothing", BUSY, x -> x.most(6), 5);
    for (String kind : NAMES) {
      run("15: most, none, " + kind, there(kind + "0 1 1;", 0, 40, 40)).due(0, x -> x.most(2));
      run("15: most, no B, " + kind, there(kind + "0 1 1;", 40, 0, 40)).due(0, x -> x.most(2));
      run("15: most, one, " + kind, there(kind + "0 1 1;", 1, 40, 0)).due(1, x -> x.most(2));
      run("15: most, 40, " + kind, there(kind + "0 1 1;", 40, 40, 0)).due(40, x -> x.most(2));
      run("15: most, itself is not used, " + kind, there(kind + "0 1 1;", 3, 4, 40)).due(3, x -> x.most(2));
      for (int n : new int[] {0, 1, 2, 3, 39, 40})
        run("15: most of two alike, " + n + ", " + kind, there(kind + "0 0 1;", n, 40, 0)).due(n / 2, x -> x.most(2));
    }
    String six = "mix0 1 1;raw1 1;raw1 1;mix3 4 1;burn2 5 1;";
    run("15: most, 39 by PARTS", there(six, 0, 1, 39, 40, 40, 40, 0)).due(39, x -> x.most(6));
    run("15: most, 40 by a PART of PARTS", there(six, 1, 1, 39, 0, 0, 40, 0)).due(40, x -> x.most(6));
    run("15: most, 41 would be more than the most", there(six, 1, 1, 40, 1, 1, 40, 0)).due(40, x -> x.most(6));
    run("15: most, 80 would be more than the most", there(six, 40, 40, 40, 40, 40, 40, 40)).due(40, x -> x.most(6));
    run("15: most, nothing limits THE PANTRY", there("mix0 1 1;mix2 2 1;", 40, 40, 40, 40)).due(40, x -> x.most(3));
    run("15: most, one less of a PART of PARTS", there("mix0 1 1;mix2 2 1;", 39, 40, 40, 40)).due(39, x -> x.most(3));
    int[][] threes = {{2, 0}, {3, 1}, {5, 1}, {6, 2}, {39, 13}, {40, 13}};
    for (int[] t : threes)
      run("15: most, by a PART and PARTS of PARTS, " + t[0], there("mix0 0 1;mix2 0 1;", t[0], 0, 0))
          .due(t[1], x -> x.most(3));
    run("15: most, doubled", then(doubling("mix"), x -> x.fill(0, 40))).due(20, x -> x.most(1))
        .due(1, x -> x.most(5)).due(0, x -> x.most(6)).due(0, x -> x.most(7));
  }

  private static void holdsAndCostBounds() {
    bounds("16: holds, m", 0, 6, (x, m) -> x.holds(m, 0));
    leaves("16: holds, x too small", BUSY, x -> x.holds(6, -1), BAD);
    leaves("16: holds, x too large", BUSY, x -> x.holds(6, 7), BAD);
    for (int i = 2; i < 7; i++) {
      int made = i;
      leaves("16: holds, x is made, " + made, BUSY, x -> x.holds(6, made), STATE);
      leaves("16: holds, BAD ahead of STATE, " + made, BUSY, x -> x.holds(7, made), BAD);
    }
    run("16: holds, a raw one itself, once", BUSY).due(1, x -> x.holds(0, 0)).due(1, x -> x.holds(1, 1));
    run("16: holds, a raw one no other", BUSY).due(0, x -> x.holds(0, 1)).due(0, x -> x.holds(1, 0));
    run("16: holds, none of a raw one that is not in it", there("mix0 0 1;")).due(0, x -> x.holds(2, 1))
        .due(2, x -> x.holds(2, 0));
    run("16: holds, whatever is there", there("mix0 1 1;", 40, 40, 40)).due(1, x -> x.holds(2, 0));
    for (String kind : NAMES) run("16: holds, the most, " + kind, doubling(kind)).due(128, x -> x.holds(7, 0))
        .due(64, x -> x.holds(6, 0)).due(1, x -> x.holds(0, 0));
    leaves("16: holds changes nothing", BUSY, x -> x.holds(6, 1), 4);
    bounds("17: cost, m", 0, 6, (x, m) -> x.cost(m));
    run("17: cost of a raw one", BUSY).due(7, x -> x.cost(0)).due(6, x -> x.cost(1));
    for (String kind : NAMES) run("17: cost, the most, " + kind, doubling(kind)).due(1152, x -> x.cost(7))
        .due(9, x -> x.cost(0)).due(18, x -> x.cost(1));
    run("17: cost, the least", then(doubling("mix"), x -> x.price(0, 0))).due(0, x -> x.cost(7)).due(0, x -> x.cost(0));
    leaves("17: cost changes nothing", BUSY, x -> x.cost(6), 38);
  }

  public static void main(String[] args) {
    ruleAndStuffBounds();
    changeBounds();
    kindBounds();
    changedAndBack();
    doingNumbers();
    cookingBounds();
    turningBounds();
    eatBounds();
    canBounds();
    mostBounds();
    holdsAndCostBounds();
    end("BoundsOfKitchenTest");
  }
}
