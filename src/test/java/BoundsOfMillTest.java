// Boundaries of promises 18 to 23: THE MILL.
public final class BoundsOfMillTest extends Cases {
  // ---- promises 18 to 23: THE MILL

  private static void turnsAndComesBounds() {
    bounds("18: turns, m", 0, 6, (x, m) -> x.turns(m, 0));
    bounds("18: turns, what", 0, 1, (x, what) -> x.turns(6, what));
    run("18: turns of a raw one", BUSY).due(0, x -> x.turns(0, 0)).due(1, x -> x.turns(0, 1));
    run("18: turns of a burnt one", BUSY).due(0, x -> x.turns(5, 0)).due(1, x -> x.turns(5, 1));
    run("18: turns, the most", doubling("mix")).due(127, x -> x.turns(7, 0)).due(128, x -> x.turns(7, 1))
        .due(1, x -> x.turns(1, 0)).due(2, x -> x.turns(1, 1));
    run("18: turns, boiled", doubling("boil")).due(7, x -> x.turns(7, 0)).due(1, x -> x.turns(7, 1));
    run("18: turns, burnt", doubling("burn")).due(0, x -> x.turns(7, 0)).due(1, x -> x.turns(7, 1));
    run("18: turns, HALF 0 when it begins", BUSY).due(1, x -> x.stuff(3, 5)).due(2, x -> x.turns(3, 0))
        .due(2, x -> x.turns(3, 1)).due(2, x -> x.turns(3, 1));
    run("18: turns, whatever THE PANTRY has", there("mix0 1 1;", 40, 40, 0)).due(1, x -> x.turns(2, 0))
        .due(2, x -> x.turns(2, 1));
    run("18: turns, every other salt of four", there("salt0 1 1;mix2 2 1;mix3 3 1;")).due(7, x -> x.turns(4, 0))
        .due(6, x -> x.turns(4, 1)).due(2, x -> x.after(4, 7, 1)).due(0, x -> x.comes(4, 3))
        .due(0, x -> x.comes(4, 4)).due(1, x -> x.comes(4, 5));
    leaves("18: turns changes nothing", BUSY, x -> x.turns(6, 0), 5);
    bounds("19: comes, m", 0, 6, (x, m) -> x.comes(m, 0));
    tooSmall("19: comes, i", 0, (x, i) -> x.comes(6, i));
    int[] row = {0, 1, 0, 1, 1};
    for (int i = 0; i < row.length; i++) {
      int at = i;
      run("19: comes, thing " + at, BUSY).due(row[at], x -> x.comes(6, at));
    }
    leaves("19: comes, no thing 5 of five", BUSY, x -> x.comes(6, 5), NONE);
    leaves("19: comes, far too many", BUSY, x -> x.comes(6, MAX), NONE);
    leaves("19: comes, BAD ahead of NONE", BUSY, x -> x.comes(7, 5), BAD);
    leaves("19: comes, no thing 1 of a raw one", BUSY, x -> x.comes(0, 1), NONE);
    run("19: comes, A ahead of B, the greater too", there("mix1 0 1;mix0 2 1;mix3 1 1;")).due(0, x -> x.comes(4, 0))
        .due(1, x -> x.comes(4, 1)).due(0, x -> x.comes(4, 2)).due(1, x -> x.comes(4, 3)).due(1, x -> x.comes(2, 0));
    run("19: comes, a raw one itself", BUSY).due(1, x -> x.comes(1, 0));
    run("19: comes, a burnt one itself", BUSY).due(5, x -> x.comes(5, 0)).due(NONE, x -> x.comes(5, 1));
    run("19: comes, the last of 128", doubling("mix")).due(0, x -> x.comes(7, 127)).due(NONE, x -> x.comes(7, 128))
        .due(0, x -> x.comes(7, 0));
  }

  private static void afterAndFirstBounds() {
    bounds("20: after, m", 0, 6, (x, m) -> x.after(m, 0, 0));
    bounds("20: after, n", 0, 127, (x, n) -> x.after(6, n, 0));
    bounds("20: after, x", 0, 6, (x, y) -> x.after(6, 1, y));
    run("20: after, no TURN", BUSY).due(1, x -> x.after(6, 0, 6)).due(0, x -> x.after(6, 0, 3))
        .due(1, x -> x.after(0, 0, 0)).due(0, x -> x.after(0, 0, 1));
    run("20: after, one TURN", BUSY).due(0, x -> x.after(6, 1, 6)).due(2, x -> x.after(6, 1, 3));
    run("20: after, as many as it makes", BUSY).due(1, x -> x.after(6, 4, 2)).due(0, x -> x.after(6, 5, 2))
        .due(3, x -> x.after(6, 5, 1));
    run("20: after, more than it makes", BUSY).due(3, x -> x.after(6, 6, 1)).due(3, x -> x.after(6, 127, 1))
        .due(1, x -> x.after(5, 127, 5));
    run("20: after, the last TURN of 127", doubling("mix")).due(126, x -> x.after(7, 126, 0))
        .due(1, x -> x.after(7, 126, 1)).due(128, x -> x.after(7, 127, 0)).due(0, x -> x.after(7, 127, 1));
    leaves("20: after changes nothing", BUSY, x -> x.after(6, 3, 1), 1);
    bounds("21: first, m", 0, 6, (x, m) -> x.first(m, 0));
    bounds("21: first, x", 0, 6, (x, y) -> x.first(6, y));
    run("21: first, itself, behind none", BUSY).due(0, x -> x.first(6, 6)).due(0, x -> x.first(0, 0))
        .due(0, x -> x.first(5, 5));
    run("21: first, the last TURN", there("salt0 1 1;mix2 2 1;")).due(3, x -> x.first(3, 1)).due(3, x -> x.turns(3, 0));
    run("21: first, the most", doubling("mix")).due(7, x -> x.first(7, 0)).due(1, x -> x.first(7, 6));
    leaves("21: first, a STUFF that is not in it", BUSY, x -> x.first(2, 3), NONE);
    leaves("21: first, what burning shut in", BUSY, x -> x.first(5, 0), NONE);
    leaves("21: first, what boiling took", there("boil0 1 1;", 1, 1, 1), x -> x.first(2, 1), NONE);
    leaves("21: first, the first salt", there("salt0 1 1;", 1, 1, 1), x -> x.first(2, 1), NONE);
    run("21: first, HALF 0 when it begins", halved("salt0 1 1;", 1, 1, 1)).due(NONE, x -> x.first(2, 1));
    run("21: first, one that gives way again", BUSY).due(2, x -> x.first(6, 2)).due(0, x -> x.after(6, 5, 2));
  }

  private static void lossAndMeanBounds() {
    bounds("22: loss, m", 0, 6, (x, m) -> x.loss(m));
    run("22: loss of a raw one", BUSY).due(0, x -> x.loss(0)).due(0, x -> x.loss(1));
    run("22: loss of a mixed one", doubling("mix")).due(0, x -> x.loss(7)).due(0, x -> x.loss(1));
    run("22: loss of a burnt one: all", doubling("burn")).due(1152, x -> x.loss(7)).due(18, x -> x.loss(1));
    run("22: loss of a boiled one: all but one", doubling("boil")).due(1143, x -> x.loss(7));
    run("22: loss, a burnt one in the row is no raw one", there("burn0 1 1;mix2 0 1;")).due(2, x -> x.loss(3));
    leaves("22: loss changes nothing", BUSY, x -> x.loss(6), 6);
    bounds("23: mean, v", 0, 10, (x, v) -> x.mean(v, 6, 1, 0));
    bounds("23: mean, m", 0, 6, (x, m) -> x.mean(5, m, 1, 0));
    bounds("23: mean, what", 0, 1, (x, what) -> x.mean(5, 6, 1, what));
    leaves("23: mean, x too small", BUSY, x -> x.mean(5, 6, -1, 0), BAD);
    leaves("23: mean, x too large", BUSY, x -> x.mean(5, 6, 7, 0), BAD);
    for (int i = 2; i < 7; i++) {
      int made = i;
      leaves("23: mean, x is made, " + made, BUSY, x -> x.mean(5, 6, made, 0), STATE);
      leaves("23: mean, x is made, BAD first by v, " + made, BUSY, x -> x.mean(11, 6, made, 0), BAD);
      leaves("23: mean, x is made, BAD first by m, " + made, BUSY, x -> x.mean(5, 7, made, 0), BAD);
      leaves("23: mean, x is made, BAD first by what, " + made, BUSY, x -> x.mean(5, 6, made, 2), BAD);
    }
    leaves("23: mean changes nothing", BUSY, x -> x.mean(5, 6, 1, 0), 3);
    meanFractions();
  }

  private static void mean(String sentence, Beginning before, int v, int m, int y, long over, long under) {
    run("23: mean, " + sentence, before).due(over, x -> x.mean(v, m, y, 0)).due(under, x -> x.mean(v, m, y, 1));
  }

  private static void meanFractions() {
    Beginning salt = there("salt0 1 1;", 0, 0, 0);
    mean("0 is 0 by 1, no odds", salt, 0, 2, 1, 0, 1);
    mean("0 is 0 by 1, not in it", there("mix0 0 1;"), 5, 2, 1, 0, 1);
    mean("0 is 0 by 1, shut in", there("burn0 1 1;"), 5, 2, 1, 0, 1);
    mean("0 is 0 by 1, boiled away", there("boil0 1 1;"), 10, 2, 1, 0, 1);
    mean("boiled: A alone", there("boil0 1 1;"), 10, 2, 0, 1, 1);
    run("23: mean, by the KIND that it is of now", there("mix0 1 1;")).due(1, x -> x.mean(5, 2, 1, 0))
        .due(0, x -> x.kind(2, 2)).due(0, x -> x.mean(5, 2, 1, 0)).due(1, x -> x.mean(5, 2, 1, 1))
        .due(2, x -> x.kind(2, 1)).due(0, x -> x.mean(5, 2, 1, 0)).due(1, x -> x.mean(5, 2, 0, 0))
        .due(0, x -> x.mean(5, 2, 1, 0)).due(1, x -> x.kind(2, 2)).due(0, x -> x.mean(5, 2, 0, 0))
        .due(1, x -> x.mean(5, 0, 0, 0));
    mean("0 is 0 by 1, another raw one", salt, 5, 0, 1, 0, 1);
    mean("a raw one itself", salt, 0, 1, 1, 1, 1);
    int[][] lowest = {{1, 1, 10}, {2, 1, 5}, {3, 3, 10}, {4, 2, 5}, {5, 1, 2}, {6, 3, 5}, {7, 7, 10}, {8, 4, 5},
        {9, 9, 10}, {10, 1, 1}};
    for (int[] t : lowest) mean("in lowest terms, " + t[0] + " out of ten", salt, t[0], 2, 1, t[1], t[2]);
    mean("odds in place of HALF 1", halved("salt0 1 1;"), 5, 2, 1, 1, 2);
    mean("ten out of ten: as mixed", doubling("salt"), 10, 7, 0, 128, 1);
    mean("none out of ten: as boiled", doubling("salt"), 0, 7, 0, 1, 1);
    mean("11 to the seventh", doubling("salt"), 1, 7, 0, 19487171, 10000000);
    mean("19 to the seventh", doubling("salt"), 9, 7, 0, 893871739, 10000000);
    mean("3 to the seventh by 2 to the seventh", doubling("salt"), 5, 7, 0, 2187, 128);
    mean("6 to the seventh by 5 to the seventh", doubling("salt"), 2, 7, 0, 279936, 78125);
    mean("mixed, the most", doubling("mix"), 0, 7, 0, 128, 1);
    mean("the PARTS of a B", there("mix1 1 1;salt0 2 1;"), 5, 3, 1, 1, 1);
    mean("odds of odds", there("salt0 1 1;salt0 2 1;"), 5, 3, 1, 1, 4);
    String six = "salt0 1 1;salt0 2 1;salt0 3 1;salt0 4 1;salt0 5 1;salt0 6 1;";
    mean("the least odds of odds", there(six), 1, 7, 1, 1, 1000000);
  }

  public static void main(String[] args) {
    turnsAndComesBounds();
    afterAndFirstBounds();
    lossAndMeanBounds();
    end("BoundsOfMillTest");
  }
}
