// Boundaries of promises 1 to 5: a new object, THE TAPE, the text.
public final class BoundsOfTextTest extends Cases {
  private static void busyIsBusy() {
    run("the tests' own beginning", BUSY).due(7, x -> x.rule(0)).due(6, x -> x.rule(1)).due(5, x -> x.rule(2))
        .due(1, x -> x.stuff(3, 5)).due(1, x -> x.stuff(4, 5)).due(3, x -> x.count(2)).due(2, x -> x.count(3))
        .due(18, x -> x.count(4)).due(4, x -> x.count(5)).due(1, x -> x.fault()).due(2, x -> x.torn());
  }

  // ---- promise 1

  private static void newObject() {
    for (int w = 0; w <= 4; w++) {
      int what = w;
      run("1: a new object, rule " + what, NEW).due(0, x -> x.rule(what));
      run("1: a new object, count " + what, NEW).due(0, x -> x.count(what));
    }
    run("1: no FAULT of a text at first", NEW).due(0, x -> x.fault());
    run("1: no FAULT of a read at first", NEW).due(0, x -> x.torn());
    run("1: none FITS where there are no STUFFS", NEW).due(0, x -> x.fits());
    run("1: none can be cooked or TURNED", NEW).due(0, x -> x.can(0)).due(0, x -> x.can(1));
    run("1: nothing to be done is best", NEW).due(0, x -> x.best(4, 0)).due(0, x -> x.best(4, 1))
        .due(NONE, x -> x.best(4, 10));
    run("1: no two FIT", NEW).due(0, x -> x.pairs(0)).due(NONE, x -> x.pairs(1));
    run("1: SHEET 0 is nothing", NEW).due(NONE, x -> x.count(5));
    for (int i = 0; i < 4; i++) {
      int k = i;
      leaves("1: SHEET " + k + " is nothing to be laid on", NEW, x -> x.lay(k, 0, 0), -11);
      run("1: SHEET " + k + " is nothing to be read", NEW).due(0, x -> x.read(k, 2, 0, 1)).due(1, x -> x.torn());
    }
    for (int i = 0; i < 2; i++) {
      int k = i;
      leaves("1: there is no IMAGE " + k, NEW, x -> x.back(k), STATE);
    }
    for (int m = 0; m < 8; m++) noStuff("1: there is no STUFF " + m, NEW, m);
    alike("1: a new object behind a busy one", x -> from(BUSY), NEW, ALL);
    Beginning another = then(BUSY, x -> { x.does(2); x.text(); });
    alike("1: a busy object beside another that goes on", then(BUSY, x -> from(another)), BUSY, ALL);
    fiveHundredAndTwelveCalls();
  }

  /** All 512 calls of an object are promised, the last one too. */
  private static void fiveHundredAndTwelveCalls() {
    run("what it is: DOINGS so far at the 512th call", then(there("mix0 1 9;", 1, 1, 0), x -> {
      for (int i = 0; i < 484; i++) x.does(i % 2 == 0 ? 2 : 12);
    })).due(484, x -> x.rule(2));
    run("what it is: FED so far at the 512th call", then(told("raw1 9;have0 40;"), x -> {
      for (int i = 0; i < 494; i++) if (i % 40 == 39) x.fill(0, 40); else x.eat(0);
    })).due(9 * (494 - 12), x -> x.rule(1));
  }

  /** Every call that names a STUFF is BAD, and changes nothing. */
  private static void noStuff(String sentence, Beginning before, int m) {
    leaves(sentence + ", stuff", before, x -> x.stuff(m, 0), BAD);
    leaves(sentence + ", fill", before, x -> x.fill(m, 1), BAD);
    leaves(sentence + ", feeds", before, x -> x.feeds(m, 1), BAD);
    leaves(sentence + ", price", before, x -> x.price(m, 1), BAD);
    leaves(sentence + ", kind", before, x -> x.kind(m, 1), BAD);
    leaves(sentence + ", cooked", before, x -> x.does(m), BAD);
    leaves(sentence + ", TURNED", before, x -> x.does(10 + m), BAD);
    leaves(sentence + ", eat", before, x -> x.eat(m), BAD);
    leaves(sentence + ", most", before, x -> x.most(m), BAD);
    leaves(sentence + ", it is held", before, x -> x.holds(0, m), BAD);
    leaves(sentence + ", it holds", before, x -> x.holds(m, 0), BAD);
    leaves(sentence + ", cost", before, x -> x.cost(m), BAD);
    leaves(sentence + ", turns", before, x -> x.turns(m, 0), BAD);
    leaves(sentence + ", comes", before, x -> x.comes(m, 0), BAD);
    leaves(sentence + ", after m", before, x -> x.after(m, 0, 0), BAD);
    leaves(sentence + ", after x", before, x -> x.after(0, 0, m), BAD);
    leaves(sentence + ", first m", before, x -> x.first(m, 0), BAD);
    leaves(sentence + ", first x", before, x -> x.first(0, m), BAD);
    leaves(sentence + ", loss", before, x -> x.loss(m), BAD);
    leaves(sentence + ", mean m", before, x -> x.mean(5, m, 0, 0), BAD);
    leaves(sentence + ", mean x", before, x -> x.mean(5, 0, m, 0), BAD);
    leaves(sentence + ", least", before, x -> x.least(m, 0), BAD);
    leaves(sentence + ", see", before, x -> x.see(m), BAD);
  }

  private static void stuffsAtMost() {
    for (int m : new int[] {7, -1, MIN, MAX}) noStuff("terms: no STUFF " + m + " of seven", BUSY, m);
    noStuff("terms: no STUFF 8 of eight", told(EIGHT_RAW), 8);
    noStuff("terms: no STUFF 1 of one", told("raw1 1;"), 1);
    run("terms: STUFF 7 of eight is one", told(EIGHT_RAW + "have7 2;")).due(4, x -> x.stuff(7, 0))
        .due(2, x -> x.fill(7, 1)).due(1, x -> x.feeds(7, 3)).due(1, x -> x.price(7, 4))
        .due(STATE, x -> x.kind(7, 0)).due(STATE, x -> x.does(7)).due(STATE, x -> x.does(17)).due(3, x -> x.eat(7))
        .due(STATE, x -> x.most(7)).due(1, x -> x.holds(7, 7)).due(4, x -> x.cost(7)).due(0, x -> x.turns(7, 0))
        .due(7, x -> x.comes(7, 0)).due(1, x -> x.after(7, 0, 7)).due(0, x -> x.first(7, 7)).due(0, x -> x.loss(7))
        .due(1, x -> x.mean(5, 7, 7, 0)).due(NONE, x -> x.least(7, 0)).due(1, x -> x.see(7)).due(128, x -> x.fits());
  }

  // ---- promises 2 and 3: THE TAPE

  private static void feedBounds() {
    bounds("2: feed, a byte", 0, 127, (x, c) -> x.feed(c));
    run("2: feed, the first byte", NEW).due(1, x -> x.feed(97)).due(1, x -> x.count(4));
    Beginning oneLess = then(BRIM, x -> x.end(159));
    run("2: feed, byte 160 is taken", oneLess).due(160, x -> x.feed(';')).due(160, x -> x.count(4))
        .due(-169, x -> x.text());
    leaves("2: feed, byte 161 is FULL", BRIM, x -> x.feed('#'), FULL);
    leaves("2: feed, BAD ahead of FULL, too large", BRIM, x -> x.feed(128), BAD);
    leaves("2: feed, BAD ahead of FULL, too small", BRIM, x -> x.feed(-1), BAD);
    run("2: feed, room again behind end", BRIM).due(160, x -> x.end(159)).due(160, x -> x.feed(32))
        .due(FULL, x -> x.feed(32));
    run("2: feed, room again behind text", BRIM).due(0, x -> x.text()).due(1, x -> x.feed(32));
    run("2: feed, byte 0 lies on THE TAPE as it is", NEW).due(1, x -> x.feed(0)).due(-10, x -> x.text())
        .due(1, x -> x.fault());
    run("2: feed, byte 127 lies on THE TAPE as it is", NEW).due(1, x -> x.feed(127)).due(-10, x -> x.text())
        .due(1, x -> x.fault());
  }

  private static void endBounds() {
    bounds("3: end, of 18 bytes", 0, 18, (x, n) -> x.end(n));
    leaves("3: end, an empty TAPE has no byte", NEW, x -> x.end(1), BAD);
    leaves("3: end, an empty TAPE, too small", NEW, x -> x.end(-1), BAD);
    leaves("3: end, an empty TAPE keeps none", NEW, x -> x.end(0), 0);
    leaves("3: end, a full TAPE keeps all", BRIM, x -> x.end(160), 160);
    leaves("3: end, a full TAPE, too large", BRIM, x -> x.end(161), BAD);
    leaves("3: end, all bytes are kept", BUSY, x -> x.end(18), 18);
    Beginning eight = x -> write(x, "raw1 1;#");
    run("3: end, the last byte is gone", eight).due(8, x -> x.end(7)).due(7, x -> x.count(4)).due(1, x -> x.text());
    run("3: end, no byte is left", eight).due(8, x -> x.end(0)).due(0, x -> x.count(4)).due(0, x -> x.text())
        .due(0, x -> x.rule(0));
    run("3: end, bytes then come behind those kept", eight).due(8, x -> x.end(5)).due(6, x -> x.feed('2'))
        .due(7, x -> x.feed(';')).due(1, x -> x.text()).due(1, x -> x.stuff(0, 4)).due(2, x -> x.stuff(0, 3));
  }

  // ---- promises 4 and 5: the text

  /** The FAULT and its place; THE TAPE is empty then, all else as it was. */
  private static void faulty(String text, int fault, int place) {
    String sentence = "4, 5: text '" + text + "'";
    run(sentence, x -> write(x, text)).due(-10 - place, x -> x.text()).due(fault, x -> x.fault())
        .due(0, x -> x.count(4)).due(0, x -> x.rule(0)).due(0, x -> x.text()).due(0, x -> x.fault());
    Beginning asked = x -> {
      write(x, text);
      x.text();
    };
    alike(sentence, then(BUSY_NO_TAPE, asked), BUSY_NO_TAPE, BUT_TAPE);
  }

  private static Run told(String sentence, String text, int lines, int stuffs) {
    return run("4: " + sentence + " '" + text + "'", then(BUSY_NO_TAPE, x -> write(x, text)))
        .due(lines, x -> x.text()).due(0, x -> x.fault()).due(0, x -> x.count(4)).due(stuffs, x -> x.rule(0));
  }

  private static void tokens() {
    told("one blank between TOKENS", "raw 1 2 ;", 1, 1).due(1, x -> x.stuff(0, 4)).due(2, x -> x.stuff(0, 3));
    told("many blanks, ahead and behind too", "   raw   1   2   ;   ", 1, 1).due(1, x -> x.stuff(0, 4))
        .due(2, x -> x.stuff(0, 3));
    told("no blank where TOKENS end by themselves", "raw1 2;raw3 4;", 2, 2).due(3, x -> x.stuff(1, 4))
        .due(4, x -> x.stuff(1, 3));
    told("NUMBERS of two figures", "raw 00 09;raw 08 07;mix 00 01 05;have 02 03;", 4, 3).due(0, x -> x.stuff(0, 4))
        .due(9, x -> x.stuff(0, 3)).due(8, x -> x.stuff(1, 4)).due(5, x -> x.stuff(2, 3)).due(3, x -> x.stuff(2, 6));
    faulty("raw 12;", 3, 4);
    faulty("raw 100 1;", 1, 4);
    faulty("raw 1 000;", 1, 6);
    faulty("raw 1 1 100", 1, 8);
    faulty("100", 1, 0);
    faulty(" 001", 1, 1);
    faulty("12", 2, 0);
    faulty("have 0 123456789012345678901234567890;", 1, 7);
    faulty("have 0 4294967296;", 1, 7);
    faulty("rawraw 1 1;", 2, 0);
    faulty("ra 1 1;", 2, 0);
    faulty("raW 1 1;", 2, 0);
    faulty("Raw 1 1;", 1, 0);
    faulty("a", 2, 0);
    faulty("z", 2, 0);
    faulty("az", 2, 0);
    faulty("raw a 1;", 2, 4);
    faulty("raw z 1;", 2, 4);
    faulty("raw 1 1;;", 2, 8);
    for (String name : new String[] {"raw", "mix", "boil", "burn", "salt", "have"})
      for (int i = 0; i < name.length(); i++)
        faulty(name.substring(0, i) + "q" + name.substring(i + 1) + " 0 0 1;", 2, 0);
    int[] none = {0, 9, 10, 31, 33, 47, 58, 60, 64, 65, 90, 96, 123, 127};
    for (int c : none) faulty("raw 1 1; " + (char) c, 1, 9);
    for (int c : none) faulty("raw 1" + (char) c + " 1;", 1, 5);
  }

  private static final String THREE = "raw1 1;raw1 1;raw1 1;";

  /** Each line's TOKENS; behind THREE, each can be taken. */
  private static final String[][] LINES = {{"raw", "9", "9", ";"}, {"mix", "2", "2", "9", ";"},
      {"boil", "2", "2", "9", ";"}, {"burn", "2", "2", "9", ";"}, {"salt", "2", "2", "9", ";"}, {"have", "2", "40", ";"}};

  /** The line up to a place, and one TOKEN in place of that which is due there. */
  private static void inPlace(String[] line, int at, String other, int fault) {
    StringBuilder text = new StringBuilder(THREE);
    for (int i = 0; i < at; i++) text.append(line[i]).append(' ');
    int place = text.length();
    faulty(text + other + " 1 1;", fault, place);
  }

  private static void everyPlaceOfEveryLine() {
    for (String[] line : LINES) {
      told("a line as it is due", THREE + String.join(" ", line), 4, line[0].equals("have") ? 3 : 4);
      for (int at = 0; at < line.length; at++) {
        boolean number = line[at].charAt(0) >= '0' && line[at].charAt(0) <= '9';
        inPlace(line, at, "#", 1);
        inPlace(line, at, "999", 1);
        if (at > 0) inPlace(line, at, "raw", 2);
        if (!number) inPlace(line, at, "1", 2);
        if (!line[at].equals(";")) inPlace(line, at, ";", 2);
        if (at == 0) inPlace(line, at, line[0] + "x", 2);
        if (at == 0) inPlace(line, at, line[0].substring(0, line[0].length() - 1), 2);
        if (at > 0) endsAt(line, at);
      }
    }
  }

  private static void endsAt(String[] line, int at) {
    StringBuilder text = new StringBuilder(THREE);
    for (int i = 0; i < at; i++) text.append(i == 0 ? "" : " ").append(line[i]);
    faulty(text.toString(), 2, text.length());
    faulty(text + "  ", 2, text.length() + 2);
  }

  /** One NUMBER of a line, at its bounds and beyond. */
  private static void numberBounds(String head, int most, String tail) {
    told("the least", head + "0" + tail, 4, head.contains("have") ? 3 : 4);
    told("the most", head + most + tail, 4, head.contains("have") ? 3 : 4);
    faulty(head + (most + 1) + tail, 3, head.length());
    faulty(head + "99" + tail, 3, head.length());
  }

  private static void numbers() {
    numberBounds(THREE + "raw ", 9, " 1;");
    numberBounds(THREE + "raw 1 ", 9, ";");
    for (String name : NAMES) {
      numberBounds(THREE + name + " ", 2, " 0 1;");
      numberBounds(THREE + name + " 0 ", 2, " 1;");
      numberBounds(THREE + name + " 0 1 ", 9, ";");
      faulty(name + " 0 0 1;", 3, name.length() + 1);
      told("A and B can be alike", "raw1 1;" + name + " 0 0 1;", 2, 2).due(0, x -> x.stuff(1, 1))
          .due(0, x -> x.stuff(1, 2));
      faulty("raw1 1;" + name + " 1 0 1;", 3, 8 + name.length());
      faulty("raw1 1;" + name + " 0 1 1;", 3, 10 + name.length());
    }
    numberBounds(THREE + "have 2 ", 40, ";");
    for (int m = 0; m < 8; m++) haveOf(m);
    faulty("have 8 1;", 3, 5);
    faulty("have 99 1;", 3, 5);
  }

  /** STUFF m of have: with m STUFFS there is none, with one more it is the last. */
  private static void haveOf(int m) {
    String fewer = EIGHT_RAW.substring(0, 7 * m) + "have " + m + " 0;";
    faulty(fewer, 6, fewer.length());
    faulty(fewer + "  ", 6, fewer.length() + 2);
    told("have of the last STUFF", EIGHT_RAW.substring(0, 7 * m + 7) + "have " + m + " 40;", m + 2, m + 1)
        .due(40, x -> x.stuff(m, 6));
    told("have ahead of its STUFF", "have " + m + " 1;" + EIGHT_RAW.substring(0, 7 * m + 7), m + 2, m + 1)
        .due(1, x -> x.stuff(m, 6));
    String twice = "have " + m + " 0;have ";
    faulty(EIGHT_RAW.substring(0, 7 * m + 7) + twice + m + " 0;", 4, 7 * m + 7 + twice.length());
  }

  private static void firstFaultMet() {
    faulty("raw 10 #", 3, 4);
    faulty("raw # 10;", 1, 4);
    faulty("raw 1 1#", 1, 7);
    faulty("mix 0 0 #", 3, 4);
    faulty("have 0 1;have 0 #", 4, 14);
    faulty("have 0 1;have 0 41;", 4, 14);
    faulty("have 0 1;have 00", 4, 14);
    faulty("have 7 1;have 7 1;", 4, 14);
    faulty("have 0 1;have #", 1, 14);
    faulty("have 0 1;have 000 1;", 1, 14);
    faulty("have 0 1;have ;", 2, 14);
    faulty("have 0 1;have", 2, 13);
    faulty("have 0 1;have 8 1;", 3, 14);
    faulty("have 8 1;have 8 1;", 3, 5);
    faulty("have 0 1;#", 1, 9);
    faulty("have 0 1;x", 2, 9);
    faulty("have 0 1;raw 10 1;", 3, 13);
    faulty("have 0 1;raw", 2, 12);
    String[] all = {"raw", "mix", "boil", "burn", "salt"};
    for (String name : all) {
      faulty(EIGHT_RAW + name + " 0 0 1;", 5, 56);
      faulty(EIGHT_RAW + "  " + name + " #", 5, 58);
      faulty(EIGHT_RAW + name, 5, 56);
      faulty(EIGHT_RAW + name + "x", 2, 56);
    }
    told("the 8th STUFF", EIGHT_RAW, 8, 8);
    told("have behind the 8th STUFF", EIGHT_RAW + "have 7 3;have 0 4;", 10, 8).due(3, x -> x.stuff(7, 6))
        .due(4, x -> x.stuff(0, 6));
    told("the 8th STUFF is made", EIGHT_RAW.substring(7) + "salt 6 6 9;", 8, 8).due(3, x -> x.stuff(7, 0))
        .due(6, x -> x.stuff(7, 1));
  }

  private static String blanks(int n) {
    return " ".repeat(n);
  }

  private static void lengthOfTheTape() {
    told("a full TAPE", blanks(153) + "raw8 9;", 1, 1).due(8, x -> x.stuff(0, 4)).due(9, x -> x.stuff(0, 3));
    told("a full TAPE of blanks", blanks(160), 0, 0);
    faulty("#", 1, 0);
    faulty(blanks(159) + "#", 1, 159);
    faulty(blanks(157) + "raw", 2, 160);
    faulty(blanks(151) + "have 0 1;", 6, 160);
    run("4: text, what is FULL is not on THE TAPE", x -> write(x, blanks(153) + "raw8 9;#")).due(1, x -> x.text());
  }

  private static void textTellsAll() {
    told("an empty text: no STUFFS", "", 0, 0).due(0, x -> x.rule(1)).due(0, x -> x.rule(2))
        .due(0, x -> x.count(0)).due(0, x -> x.count(2)).due(0, x -> x.count(3)).due(STATE, x -> x.back(0))
        .due(STATE, x -> x.back(1));
    noStuff("4: no STUFF 0 behind an empty text", then(BUSY_NO_TAPE, x -> x.text()), 0);
    told("blanks alone: no STUFFS", "    ", 0, 0).due(0, x -> x.count(2)).due(0, x -> x.count(3));
    String other = "raw9 8;raw7 6;mix0 1 5;salt2 2 4;salt3 0 3;mix0 0 2;mix0 0 1;";
    told("FED is 0", other, 7, 7).due(0, x -> x.rule(1));
    told("DOINGS are 0", other, 7, 7).due(0, x -> x.rule(2));
    told("HALVES are 0", other, 7, 7).due(0, x -> x.stuff(3, 5)).due(0, x -> x.stuff(4, 5));
    told("none is there that was not told", other, 7, 7).due(0, x -> x.rule(4)).due(0, x -> x.count(0));
    told("nothing is SEEN", other, 7, 7).due(0, x -> x.count(2)).due(127, x -> x.fits()).due(1, x -> x.see(1));
    told("IMAGES are gone", other, 7, 7).due(0, x -> x.count(3)).due(STATE, x -> x.back(0))
        .due(STATE, x -> x.back(1)).due(0, x -> x.keep(0)).due(0, x -> x.keep(1));
    told("SHEETS stay", other, 7, 7).due(4, x -> x.count(5)).due(1, x -> x.lay(1, 2, 0))
        .due(1, x -> x.lay(2, 1, 0)).due(-11, x -> x.lay(3, 0, 0));
    told("the FAULT of a read stays", other, 7, 7).due(2, x -> x.torn());
    told("have lines are lines", "have 0 1;raw1 1;", 2, 1);
    run("5: the FAULT of the latest text alone", BUSY).due(1, x -> x.fault()).due(2, x -> x.text())
        .due(0, x -> x.fault());
    leaves("5: fault changes nothing", BUSY, x -> x.fault(), 1);
  }

  public static void main(String[] args) {
    busyIsBusy();
    newObject();
    stuffsAtMost();
    feedBounds();
    endBounds();
    tokens();
    everyPlaceOfEveryLine();
    numbers();
    firstFaultMet();
    lengthOfTheTape();
    textTellsAll();
    end("BoundsOfTextTest");
  }
}
