// For each promise: ordinary inputs, the edges that the document names, wrong inputs.
public final class PromisesTest {
  private static final int BAD = -1, STATE = -2, FULL = -3, NONE = -4;
  /** 0, 1 raw; 2 mixed, 3 salted, 4 boiled, 5 burnt, 6 mixed of two alike. */
  private static final String KITCHEN =
      "raw 2 1;raw 3 0;mix 0 1 4;salt 2 1 5;boil 3 0 9;burn 4 2 1;mix 3 3 7;have 0 5;have 1 6;have 3 1;";
  private static int wrong = 0;
  private static int asked = 0;

  private static void due(String call, long got, long want) {
    asked++;
    if (got != want) {
      wrong++;
      System.out.println(call + " answered " + got + ", due is " + want);
    }
  }

  private static void write(UncookMill x, String text) {
    for (int i = 0; i < text.length(); i++) x.feed(text.charAt(i));
  }

  private static UncookMill of(String text) {
    UncookMill x = new UncookMill();
    write(x, text);
    if (x.text() < 0) { wrong++; System.out.println("a text of the test is refused: " + text); }
    return x;
  }

  private static void faulty(String text, int fault, int place) {
    UncookMill x = of("raw 7 8;have 0 3;");
    x.keep(0);
    x.see(0);
    write(x, text);
    due("text() of '" + text + "'", x.text(), -10 - place);
    due("fault() of '" + text + "'", x.fault(), fault);
    due("THE TAPE behind a fault", x.count(4), 0);
    due("STUFFS stay", x.rule(0), 1);
    due("PRICE stays", x.stuff(0, 4), 7);
    due("THE PANTRY stays", x.stuff(0, 6), 3);
    due("SEEN stays", x.count(2), 1);
    due("IMAGES stay", x.count(3), 1);
  }

  private static void taken(String text, int lines, int stuffs) {
    UncookMill x = of("raw 7 8;have 0 3;");
    write(x, text);
    due("text() of '" + text + "'", x.text(), lines);
    due("fault() of '" + text + "'", x.fault(), 0);
    due("rule(0) of '" + text + "'", x.rule(0), stuffs);
  }

  private static void p1NewObject() {
    UncookMill x = new UncookMill();
    for (int what = 0; what <= 4; what++) due("new rule", x.rule(what), 0);
    for (int what = 0; what <= 4; what++) due("new count", x.count(what), 0);
    due("new count(5)", x.count(5), NONE);
    due("new stuff", x.stuff(0, 0), BAD);
    due("new fault", x.fault(), 0);
    due("new torn", x.torn(), 0);
    due("new back", x.back(0), STATE);
    due("new drift", x.drift(1, 1, 0), STATE);
    due("new fits", x.fits(), 0);
    due("new pairs(0)", x.pairs(0), 0);
    due("new pairs(1)", x.pairs(1), NONE);
    due("new best", x.best(4, 0), 0);
    due("new best(4, 1)", x.best(4, 1), 0);
    due("new best(4, 10)", x.best(4, 10), NONE);
    due("new least", x.least(0, 0), BAD);
    due("new does", x.does(0), BAD);
    due("new can(0)", x.can(0), 0);
    due("new can(1)", x.can(1), 0);
    due("new most", x.most(0), BAD);
    due("new turns", x.turns(0, 0), BAD);
    due("new eat", x.eat(0), BAD);
    due("new see", x.see(0), BAD);
    for (int k = 0; k < 4; k++) due("new lay", x.lay(k, 0, 1), -11);
  }

  private static void p2Feed() {
    UncookMill x = new UncookMill();
    due("feed(-1)", x.feed(-1), BAD);
    due("feed(128)", x.feed(128), BAD);
    due("feed(0)", x.feed(0), 1);
    due("feed(127)", x.feed(127), 2);
    for (int i = 3; i <= 160; i++) due("feed", x.feed(32), i);
    due("feed the 161st", x.feed(32), FULL);
    due("feed(200), full", x.feed(200), BAD);
    due("count(4), full", x.count(4), 160);
  }

  private static void p3End() {
    UncookMill x = new UncookMill();
    write(x, "raw 1 1;raw");
    due("end(-1)", x.end(-1), BAD);
    due("end(12)", x.end(12), BAD);
    due("end(11)", x.end(11), 11);
    due("end(8)", x.end(8), 11);
    due("count(4)", x.count(4), 8);
    due("text()", x.text(), 1);
    due("end(0)", x.end(0), 0);
    due("end(1)", x.end(1), BAD);
  }

  private static void p4Text() {
    taken("", 0, 0);
    taken("   ", 0, 0);
    taken("raw1 1;raw 1 1 ;  mix0 1 9;", 3, 3);
    taken("have 1 40;raw 00 09;raw 9 0;", 3, 2);
    taken("raw 1 1;have 00 00;have 1 1;raw 2 2;", 4, 2);
    taken("raw 1 1;raw 1 1;raw 1 1;raw 1 1;raw 1 1;raw 1 1;raw 1 1;raw 1 1;", 8, 8);
    taken("raw 1 1;boil 0 0 1;burn 1 1 1;salt 2 2 1;", 4, 4);
    UncookMill x = of(KITCHEN);
    x.eat(3);
    x.does(2);
    x.see(0);
    x.keep(0);
    x.keep(1);
    x.sheet(0, 0, 3);
    write(x, "raw 5 6;raw 1 1;salt 0 0 3;");
    due("text()", x.text(), 3);
    due("STUFFS", x.rule(0), 3);
    due("FED", x.rule(1), 0);
    due("DOINGS", x.rule(2), 0);
    due("none there", x.rule(4), 0);
    due("SEEN", x.count(2), 0);
    due("IMAGES", x.count(3), 0);
    due("back(0)", x.back(0), STATE);
    due("TAPE", x.count(4), 0);
    due("SHEETS stay", x.count(5), 3);
    due("KIND", x.stuff(2, 0), 3);
    x.fill(2, 2);
    x.does(12);
    due("HALF", x.stuff(2, 5), 1);
    write(x, "raw 5 6;raw 1 1;salt 0 0 3;");
    due("text()", x.text(), 3);
    due("HALF anew", x.stuff(2, 5), 0);
  }

  private static void p5Fault() {
    faulty("raw 1 1;#", 1, 8);
    faulty("RAW 1 1;", 1, 0);
    faulty("raw 100 1;", 1, 4);
    faulty("raw 1 1234567890123;", 1, 6);
    faulty("  100", 1, 2);
    faulty("raw 1 1\t;", 1, 7);
    String none = "`{AZ/:!\u0000\u007f";
    for (int i = 0; i < none.length(); i++) faulty("raw 1 1; " + none.charAt(i), 1, 9);
    faulty("az", 2, 0);
    faulty("z", 2, 0);
    faulty("raw 0 9;raw 9 0;raw 09 09;mix 02 00 09;have 04 40;", 6, 50);
    faulty("1", 2, 0);
    faulty(";", 2, 0);
    faulty("raw 1 1;;", 2, 8);
    faulty("rawx 1 1;", 2, 0);
    faulty("ra 1 1;", 2, 0);
    faulty("raw raw 1;", 2, 4);
    faulty("raw 1 1 1;", 2, 8);
    faulty("raw 1;", 2, 5);
    faulty("raw", 2, 3);
    faulty("raw   ", 2, 6);
    faulty("raw 1 1", 2, 7);
    faulty("have ;", 2, 5);
    faulty("raw 10 1;", 3, 4);
    faulty("raw 1 10;", 3, 6);
    faulty("mix 0 0 1;", 3, 4);
    faulty("raw 1 1;mix 0 1 1;", 3, 14);
    faulty("raw 1 1;mix 1 0 1;", 3, 12);
    faulty("raw 1 1;burn 0 0 10;", 3, 17);
    faulty("have 8 1;", 3, 5);
    faulty("have 0 41;", 3, 7);
    faulty("have 0 1;have 0 1;", 4, 14);
    faulty("have 0 1;have 0 #", 4, 14);
    faulty("have 9 1;have 9 1;", 3, 5);
    String eight = "raw 1 1;raw 1 1;raw 1 1;raw 1 1;raw 1 1;raw 1 1;raw 1 1;raw 1 1;";
    faulty(eight + " raw 1 1;", 5, 65);
    faulty(eight + "mix 9 9 #", 5, 64);
    faulty(eight + "mixx", 2, 64);
    faulty("have 0 1;", 6, 9);
    faulty("raw 1 1;have 1 0; ", 6, 18);
    faulty("raw 1 1;have 1 0;#", 1, 17);
    taken(eight + "have 7 1;", 9, 8);
    UncookMill x = new UncookMill();
    write(x, "#");
    due("text()", x.text(), -10);
    due("fault()", x.fault(), 1);
    due("text()", x.text(), 0);
    due("fault()", x.fault(), 0);
  }

  private static void p6Rule() {
    UncookMill x = of(KITCHEN);
    due("rule(0)", x.rule(0), 7);
    due("rule(3)", x.rule(3), 3);
    due("rule(4)", x.rule(4), 11);
    x.eat(3);
    x.does(2);
    due("rule(1)", x.rule(1), 5);
    due("rule(2)", x.rule(2), 1);
    due("rule(4)", x.rule(4), 7);
    due("rule(-1)", x.rule(-1), BAD);
    due("rule(5)", x.rule(5), BAD);
  }

  private static void p7Stuff() {
    UncookMill x = of(KITCHEN);
    int[][] want = {{4, NONE, NONE, 1, 2, 0, 5}, {4, NONE, NONE, 0, 3, 0, 6}, {0, 0, 1, 4, NONE, 0, 0},
        {3, 2, 1, 5, NONE, 0, 1}, {1, 3, 0, 9, NONE, 0, 0}, {2, 4, 2, 1, NONE, 0, 0}, {0, 3, 3, 7, NONE, 0, 0}};
    for (int m = 0; m < 7; m++)
      for (int what = 0; what < 7; what++)
        due("stuff(" + m + ", " + what + ")", x.stuff(m, what), want[m][what]);
    due("stuff(7, 0)", x.stuff(7, 0), BAD);
    due("stuff(-1, 0)", x.stuff(-1, 0), BAD);
    due("stuff(0, 7)", x.stuff(0, 7), BAD);
    due("stuff(0, -1)", x.stuff(0, -1), BAD);
    x.does(13);
    due("HALF", x.stuff(3, 5), 1);
  }

  private static void p8Fill() {
    UncookMill x = of(KITCHEN);
    due("fill(0, 40)", x.fill(0, 40), 5);
    due("fill(0, 0)", x.fill(0, 0), 40);
    due("stuff(0, 6)", x.stuff(0, 6), 0);
    due("fill(5, 7)", x.fill(5, 7), 0);
    due("fill(0, 41)", x.fill(0, 41), BAD);
    due("fill(0, -1)", x.fill(0, -1), BAD);
    due("fill(7, 1)", x.fill(7, 1), BAD);
    due("fill(-1, 1)", x.fill(-1, 1), BAD);
  }

  private static void p9Feeds() {
    UncookMill x = of(KITCHEN);
    due("feeds(3, 9)", x.feeds(3, 9), 5);
    due("feeds(3, 0)", x.feeds(3, 0), 9);
    due("stuff(3, 3)", x.stuff(3, 3), 0);
    due("feeds(0, 10)", x.feeds(0, 10), BAD);
    due("feeds(0, -1)", x.feeds(0, -1), BAD);
    due("feeds(7, 1)", x.feeds(7, 1), BAD);
  }

  private static void p10Price() {
    UncookMill x = of(KITCHEN);
    due("price(1, 9)", x.price(1, 9), 3);
    due("price(1, 0)", x.price(1, 0), 9);
    due("stuff(1, 4)", x.stuff(1, 4), 0);
    due("price(2, 1)", x.price(2, 1), STATE);
    due("price(2, 10)", x.price(2, 10), BAD);
    due("price(0, -1)", x.price(0, -1), BAD);
    due("price(7, 1)", x.price(7, 1), BAD);
  }

  private static void p11Kind() {
    UncookMill x = of(KITCHEN);
    due("kind(3, 0)", x.kind(3, 0), 3);
    due("turns(3, 1)", x.turns(3, 1), 3);
    due("kind(3, 3)", x.kind(3, 3), 0);
    due("turns(3, 1)", x.turns(3, 1), 2);
    due("kind(0, 1)", x.kind(0, 1), STATE);
    due("kind(0, 4)", x.kind(0, 4), BAD);
    due("kind(3, -1)", x.kind(3, -1), BAD);
    due("kind(7, 0)", x.kind(7, 0), BAD);
    x.does(13);
    x.kind(3, 1);
    due("HALF stays", x.stuff(3, 5), 1);
    x.fill(3, 2);
    x.does(13);
    due("boiled leaves HALF", x.stuff(3, 5), 1);
  }

  private static void p12Does() {
    UncookMill x = of(KITCHEN);
    due("does(2)", x.does(2), 1);
    due("A less", x.stuff(0, 6), 4);
    due("B less", x.stuff(1, 6), 5);
    due("does(3)", x.does(3), 2);
    due("does(6)", x.does(6), 1);
    due("two less", x.stuff(3, 6), 0);
    due("does(16)", x.does(16), 0);
    due("two more", x.stuff(3, 6), 2);
    due("does(13), HALF 0", x.does(13), 1);
    due("B lost", x.stuff(1, 6), 4);
    due("does(13), HALF 1", x.does(13), 0);
    due("B back", x.stuff(1, 6), 5);
    due("HALF", x.stuff(3, 5), 0);
    x.fill(3, 1);
    due("does(4)", x.does(4), 1);
    due("does(14)", x.does(14), 0);
    due("A back", x.stuff(3, 6), 1);
    due("B boiled away", x.stuff(0, 6), 3);
    x.fill(5, 1);
    due("does(15), burnt", x.does(15), STATE);
    due("does(0), raw", x.does(0), STATE);
    due("does(10), raw", x.does(10), STATE);
    int before = x.rule(2);
    due("does(8)", x.does(8), BAD);
    due("does(9)", x.does(9), BAD);
    due("does(7)", x.does(7), BAD);
    due("does(17)", x.does(17), BAD);
    due("does(18)", x.does(18), BAD);
    due("does(-1)", x.does(-1), BAD);
    due("does(least int)", x.does(Integer.MIN_VALUE), BAD);
    due("does(greatest int)", x.does(Integer.MAX_VALUE), BAD);
    due("refused are not counted", x.rule(2), before);
    x.fill(2, 40);
    due("does(2), 40 there", x.does(2), STATE);
    x.fill(2, 0);
    due("does(12), none there", x.does(12), STATE);
    x.fill(2, 1);
    x.fill(1, 40);
    due("does(12), B 40", x.does(12), STATE);
    x.fill(3, 1);
    due("does(13), B 40 but lost", x.does(13), 0);
    x.fill(3, 1);
    due("does(13), B 40 and back", x.does(13), STATE);
    x.fill(3, 39);
    x.fill(6, 1);
    due("does(16), two more than 39", x.does(16), STATE);
    x.fill(3, 38);
    due("does(16), two more than 38", x.does(16), 0);
    x.fill(3, 1);
    due("does(6), one of two", x.does(6), STATE);
    x.fill(0, 40);
    x.fill(1, 0);
    x.fill(2, 1);
    due("does(12), A 40", x.does(12), STATE);
    x.kind(2, 1);
    due("does(12), boiled, A 40", x.does(12), STATE);
    x.fill(0, 39);
    due("does(12), boiled, A 39", x.does(12), 0);
  }

  private static void p13Eat() {
    UncookMill x = of(KITCHEN);
    due("eat(3)", x.eat(3), 5);
    due("eat(3)", x.eat(3), STATE);
    due("eat(0)", x.eat(0), 6);
    due("less", x.stuff(0, 6), 4);
    due("eat(1)", x.eat(1), 6);
    due("no DOING", x.rule(2), 0);
    due("eat(7)", x.eat(7), BAD);
    due("eat(-1)", x.eat(-1), BAD);
  }

  private static void p14Can() {
    UncookMill x = of(KITCHEN);
    due("can(0)", x.can(0), 20);
    due("can(1)", x.can(1), 8);
    x.fill(3, 2);
    due("can(0)", x.can(0), 84);
    x.fill(4, 40);
    due("can(0)", x.can(0), 68);
    x.fill(5, 1);
    due("can(1)", x.can(1), 24);
    x.fill(3, 40);
    due("can(1)", x.can(1), 8);
    due("can(2)", x.can(2), BAD);
    due("can(-1)", x.can(-1), BAD);
  }

  private static void p15Most() {
    UncookMill x = of(KITCHEN);
    int[] want = {STATE, STATE, 5, 3, 3, 2, 2};
    for (int m = 0; m < 7; m++) due("most(" + m + ")", x.most(m), want[m]);
    x.fill(6, 30);
    due("most(6), itself not used", x.most(6), 2);
    x.fill(3, 40);
    due("most(6), 40 and more", x.most(6), 21);
    due("most(7)", x.most(7), BAD);
    x.kind(3, 2);
    due("most(6), burnt PARTS", x.most(6), 21);
    UncookMill y = of("raw 1 1;raw 1 1;raw 1 1;raw 1 1;mix 0 1 1;mix 2 3 1;mix 4 5 1;");
    for (int m = 0; m < 7; m++) y.fill(m, 40);
    due("most(6), never more than 40", y.most(6), 40);
    due("most(4)", y.most(4), 40);
    y.fill(0, 0);
    due("most(4), no A", y.most(4), 0);
    due("most(6), A there", y.most(6), 40);
  }

  private static void p16Holds() {
    UncookMill x = of(KITCHEN);
    int[][] want = {{1, 0}, {0, 1}, {1, 1}, {1, 2}, {2, 2}, {3, 3}, {2, 4}};
    for (int m = 0; m < 7; m++)
      for (int r = 0; r < 2; r++) due("holds(" + m + ", " + r + ")", x.holds(m, r), want[m][r]);
    due("holds(3, 3)", x.holds(3, 3), STATE);
    due("holds(7, 3)", x.holds(7, 3), BAD);
    due("holds(0, 7)", x.holds(0, 7), BAD);
    due("holds(-1, 0)", x.holds(-1, 0), BAD);
    due("holds(7, 0), doubled", doubling("mix").holds(7, 0), 128);
  }

  private static UncookMill doubling(String name) {
    StringBuilder text = new StringBuilder("raw 9 1;");
    for (int m = 0; m < 7; m++) text.append(name + " " + m + " " + m + " 1;");
    return of(text.toString());
  }

  private static void p17Cost() {
    UncookMill x = of(KITCHEN);
    int[] want = {2, 3, 5, 8, 10, 15, 16};
    for (int m = 0; m < 7; m++) due("cost(" + m + ")", x.cost(m), want[m]);
    due("cost(7)", x.cost(7), BAD);
    due("cost(-1)", x.cost(-1), BAD);
    due("cost(7), doubled", doubling("burn").cost(7), 1152);
  }

  private static void p18Turns() {
    UncookMill x = of(KITCHEN);
    x.does(13);
    int[][] want = {{0, 1}, {0, 1}, {1, 2}, {2, 2}, {3, 2}, {0, 1}, {5, 5}};
    for (int m = 0; m < 7; m++)
      for (int what = 0; what < 2; what++) due("turns(" + m + ", " + what + ")", x.turns(m, what), want[m][what]);
    due("turns(7, 0)", x.turns(7, 0), BAD);
    due("turns(0, 2)", x.turns(0, 2), BAD);
    due("turns(0, -1)", x.turns(0, -1), BAD);
    UncookMill y = doubling("mix");
    due("turns(7, 0), doubled", y.turns(7, 0), 127);
    due("turns(7, 1), doubled", y.turns(7, 1), 128);
    due("turns(7, 0), boiled", doubling("boil").turns(7, 0), 7);
  }

  private static void p19Comes() {
    UncookMill x = of(KITCHEN);
    int[] want = {0, 1, 0, 1, 1, NONE};
    for (int i = 0; i < 6; i++) due("comes(6, " + i + ")", x.comes(6, i), want[i]);
    due("comes(5, 0), burnt", x.comes(5, 0), 5);
    due("comes(6, -1)", x.comes(6, -1), BAD);
    due("comes(7, 0)", x.comes(7, 0), BAD);
    due("comes(6, greatest)", x.comes(6, Integer.MAX_VALUE), NONE);
    due("comes(7, 127)", doubling("mix").comes(7, 127), 0);
    UncookMill y = of("raw 1 1;raw 1 1;burn 0 1 1;mix 2 1 1;mix 1 3 1;");
    int[] burnt = {1, 2, 1, NONE};
    for (int i = 0; i < 4; i++) due("comes(4, " + i + ")", y.comes(4, i), burnt[i]);
  }

  private static void p20After() {
    UncookMill x = of(KITCHEN);
    int[][] rows = {{0, 0, 0, 0, 0, 0, 1}, {0, 0, 0, 2, 0, 0, 0}, {0, 0, 1, 1, 0, 0, 0},
        {1, 1, 0, 1, 0, 0, 0}, {1, 2, 1, 0, 0, 0, 0}, {2, 3, 0, 0, 0, 0, 0}, {2, 3, 0, 0, 0, 0, 0}};
    for (int n = 0; n < 7; n++)
      for (int r = 0; r < 7; r++) due("after(6, " + n + ", " + r + ")", x.after(6, n, r), rows[n][r]);
    due("after(6, 127, 1)", x.after(6, 127, 1), 3);
    due("after(6, 128, 1)", x.after(6, 128, 1), BAD);
    due("after(6, -1, 1)", x.after(6, -1, 1), BAD);
    due("after(7, 0, 1)", x.after(7, 0, 1), BAD);
    due("after(6, 0, 7)", x.after(6, 0, 7), BAD);
    UncookMill y = doubling("mix");
    due("after(7, 126, 0)", y.after(7, 126, 0), 126);
    due("after(7, 126, 1)", y.after(7, 126, 1), 1);
    due("after(7, 127, 0)", y.after(7, 127, 0), 128);
  }

  private static void p21First() {
    UncookMill x = of(KITCHEN);
    int[] want = {3, 3, 2, 1, NONE, NONE, 0};
    for (int r = 0; r < 7; r++) due("first(6, " + r + ")", x.first(6, r), want[r]);
    due("first(4, 0)", x.first(4, 0), 3);
    due("first(5, 4), burnt", x.first(5, 4), NONE);
    due("first(7, 0)", x.first(7, 0), BAD);
    due("first(0, 7)", x.first(0, 7), BAD);
    due("first(7, 0), doubled", doubling("mix").first(7, 0), 7);
    UncookMill y = of("raw 1 1;raw 1 1;salt 0 1 1;mix 2 2 1;");
    due("first(3, 1), the other salt", y.first(3, 1), 3);
    due("first(2, 1), lost", y.first(2, 1), NONE);
  }

  private static void p22Loss() {
    UncookMill x = of(KITCHEN);
    int[] want = {0, 0, 0, 3, 5, 15, 3};
    for (int m = 0; m < 7; m++) due("loss(" + m + ")", x.loss(m), want[m]);
    due("loss(7)", x.loss(7), BAD);
    due("loss(-1)", x.loss(-1), BAD);
    due("loss(7), boiled", doubling("boil").loss(7), 1143);
  }

  private static void p23Mean() {
    UncookMill x = of(KITCHEN);
    due("mean(5, 6, 1, 0)", x.mean(5, 6, 1, 0), 3);
    due("mean(5, 6, 1, 1)", x.mean(5, 6, 1, 1), 1);
    due("mean(3, 3, 1, 0)", x.mean(3, 3, 1, 0), 13);
    due("mean(3, 3, 1, 1)", x.mean(3, 3, 1, 1), 10);
    due("mean(10, 3, 1, 0)", x.mean(10, 3, 1, 0), 2);
    due("mean(0, 3, 1, 0)", x.mean(0, 3, 1, 0), 1);
    due("mean(3, 5, 0, 0), burnt", x.mean(3, 5, 0, 0), 0);
    due("mean(3, 5, 0, 1), burnt", x.mean(3, 5, 0, 1), 1);
    due("mean(5, 3, 3, 0)", x.mean(5, 3, 3, 0), STATE);
    due("mean(5, 3, 3, 2)", x.mean(5, 3, 3, 2), BAD);
    due("mean(11, 3, 1, 0)", x.mean(11, 3, 1, 0), BAD);
    due("mean(-1, 3, 1, 0)", x.mean(-1, 3, 1, 0), BAD);
    due("mean(5, 7, 1, 0)", x.mean(5, 7, 1, 0), BAD);
    due("mean(5, 3, 7, 0)", x.mean(5, 3, 7, 0), BAD);
    due("mean(5, 3, 1, -1)", x.mean(5, 3, 1, -1), BAD);
    UncookMill y = doubling("salt");
    due("mean(7, 7, 0, 0), 17 to the seventh", y.mean(7, 7, 0, 0), 410338673);
    due("mean(7, 7, 0, 1)", y.mean(7, 7, 0, 1), 10000000);
    due("mean(5, 7, 0, 0), 3 to the seventh", y.mean(5, 7, 0, 0), 2187);
    due("mean(5, 7, 0, 1)", y.mean(5, 7, 0, 1), 128);
  }

  private static void p24Best() {
    UncookMill x = of(KITCHEN);
    int[] sums = {10, 13, 16, 19, 22};
    int[] sizes = {0, 1, 2, 3, 4};
    for (int k = 0; k <= 4; k++) {
      due("best(" + k + ", 0)", x.best(k, 0), sums[k]);
      due("best(" + k + ", 1)", x.best(k, 1), sizes[k]);
    }
    due("best(1, 10)", x.best(1, 10), 2);
    due("best(1, 11)", x.best(1, 11), NONE);
    due("best(4, greatest)", x.best(4, Integer.MAX_VALUE), NONE);
    due("best(5, 0)", x.best(5, 0), BAD);
    due("best(-1, 0)", x.best(-1, 0), BAD);
    for (int what = 2; what < 10; what++) due("best(1, " + what + ")", x.best(1, what), BAD);
    due("best(1, -1)", x.best(1, -1), BAD);
    due("nothing is done", x.rule(2), 0);
    due("THE PANTRY stays", x.count(0), 12);
    due("HALF stays", x.stuff(3, 5), 0);
    UncookMill y = of("raw 1 0;raw 1 0;mix 0 1 0;mix 2 0 9;mix 0 0 0;have 0 3;have 1 1;");
    due("best(1, 0), nothing gained", y.best(1, 0), 0);
    due("best(1, 1), then none is done", y.best(1, 1), 0);
    due("best(4, 0), by way of none gained", y.best(4, 0), 9);
    due("best(4, 1)", y.best(4, 1), 2);
    due("best(4, 10)", y.best(4, 10), 2);
    due("best(4, 11)", y.best(4, 11), 3);
    due("best(4, 12)", y.best(4, 12), NONE);
    UncookMill z = of("raw 1 0;raw 1 9;salt 0 1 0;have 2 2;");
    due("best(1, 0), salt lost", z.best(1, 0), 0);
    due("best(2, 0), the other salt", z.best(2, 0), 9);
    due("best(2, 10)", z.best(2, 10), 12);
    UncookMill full = of("raw 1 9;mix 0 0 0;have 0 39;have 1 2;");
    due("best(4, 0), no more than 40", full.best(4, 0), 351);
  }

  private static void p25Least() {
    UncookMill x = of(KITCHEN);
    int[] want = {0, 0, 1, 0, 1, 3, 3};
    for (int m = 0; m < 7; m++) due("least(" + m + ", 0)", x.least(m, 0), want[m]);
    due("least(3, 10)", x.least(3, 10), NONE);
    due("least(2, 10), cooked ahead of TURNED", x.least(2, 10), 2);
    int[] row = {2, 4, 5};
    int[] six = {2, 3, 6};
    for (int i = 0; i < 3; i++) {
      due("least(6, 1" + i + ")", x.least(6, 10 + i), six[i]);
    }
    due("least(5, 10)", x.least(5, 10), row[0]);
    due("least(6, 13)", x.least(6, 13), NONE);
    for (int what = 1; what < 10; what++) due("least(6, " + what + ")", x.least(6, what), BAD);
    due("least(6, -1)", x.least(6, -1), BAD);
    due("least(7, 0)", x.least(7, 0), BAD);
    due("nothing is done", x.rule(2), 0);
    UncookMill y = doubling("mix");
    due("least(1, 0), by none", y.least(1, 0), NONE);
    due("least(1, 10), by none", y.least(1, 10), NONE);
    due("least(1, 1), by none", y.least(1, 1), BAD);
    y.fill(5, 1);
    due("least(1, 0), TURNED", y.least(1, 0), 4);
    due("least(1, 10)", y.least(1, 10), 15);
    due("least(1, 13)", y.least(1, 13), 12);
    due("least(0, 0), too far", y.least(0, 0), NONE);
    UncookMill z = of("raw 1 1;raw 1 1;salt 0 1 1;have 2 2;");
    due("least(1, 0), the other salt", z.least(1, 0), 2);
    z.kind(2, 2);
    due("least(0, 0), shut in", z.least(0, 0), NONE);
  }

  private static void p26See() {
    UncookMill x = of(KITCHEN);
    for (int i = 1; i <= 8; i++) due("see(" + (i % 7) + ")", x.see(i % 7), i);
    due("see(0), full", x.see(0), FULL);
    due("see(7), full", x.see(7), BAD);
    due("see(-1)", x.see(-1), BAD);
    due("count(2)", x.count(2), 8);
  }

  private static void p27Forget() {
    UncookMill x = of(KITCHEN);
    x.see(0);
    x.see(1);
    x.see(1);
    due("forget(4)", x.forget(4), BAD);
    due("forget(-1)", x.forget(-1), BAD);
    due("forget(3)", x.forget(3), 3);
    due("forget(2)", x.forget(2), 3);
    due("the first stay", x.fits(), 92);
    due("forget(0)", x.forget(0), 2);
    due("count(2)", x.count(2), 0);
  }

  private static void p28Fits() {
    UncookMill x = of(KITCHEN);
    due("fits(), nothing SEEN", x.fits(), 127);
    x.see(0);
    due("fits()", x.fits(), 93);
    x.see(1);
    due("fits()", x.fits(), 92);
    x.see(0);
    due("fits()", x.fits(), 64);
    x.see(0);
    due("fits()", x.fits(), 0);
    x.forget(0);
    x.see(5);
    due("fits(), burnt", x.fits(), 32);
  }

  private static void p29Pairs() {
    UncookMill x = of(KITCHEN);
    due("pairs(0)", x.pairs(0), 0);
    due("pairs(1)", x.pairs(1), NONE);
    due("pairs(2)", x.pairs(2), BAD);
    due("pairs(-1)", x.pairs(-1), BAD);
    x.see(1);
    x.see(0);
    due("pairs(0), any order", x.pairs(0), 1);
    due("pairs(1)", x.pairs(1), 1);
    x.see(0);
    due("pairs(0)", x.pairs(0), 3);
    due("pairs(1)", x.pairs(1), 2);
    x.see(1);
    due("pairs(0), 2, 3, 4, twice too", x.pairs(0), 6);
    due("pairs(1)", x.pairs(1), 22);
    x.forget(0);
    x.see(5);
    x.see(5);
    due("pairs(1), burnt", x.pairs(1), 55);
  }

  /** The DOINGS of a drift, done one by one by does(): how many were. */
  private static int driftByHand(UncookMill x, int seed, int n) {
    int done = 0;
    for (int i = 0; i < n; i++) {
      seed = seed * 1103515245 + 12345;
      int m = ((seed >> 16) & 32767) % x.rule(0);
      seed = seed * 1103515245 + 12345;
      int turned = ((seed >> 16) & 32767) % 2;
      if (x.does(m + 10 * turned) >= 0) done++;
    }
    return done;
  }

  private static void sameKitchen(String behind, UncookMill x, UncookMill y) {
    for (int m = 0; m < 8; m++)
      for (int what = 0; what <= 6; what++) due(behind + ": stuff(" + m + ", " + what + ")", x.stuff(m, what), y.stuff(m, what));
    for (int what = 0; what <= 4; what++) due(behind + ": rule(" + what + ")", x.rule(what), y.rule(what));
    for (int what = 0; what <= 5; what++) due(behind + ": count(" + what + ")", x.count(what), y.count(what));
  }

  private static void p30Drift() {
    UncookMill x = of(KITCHEN);
    UncookMill byHand = of(KITCHEN);
    int done = driftByHand(byHand, 12345, 60);
    due("something was done", done > 3 ? 1 : 0, 1);
    due("drift(12345, 60, 0)", x.drift(12345, 60, 0), done);
    due("drift(12345, 60, 1)", x.drift(12345, 60, 1), byHand.count(0));
    due("drift(12345, 60, 0), again", x.drift(12345, 60, 0), done);
    sameKitchen("drift", x, of(KITCHEN));
    due("drift(1, 0, 0)", x.drift(1, 0, 0), BAD);
    due("drift(1, 61, 0)", x.drift(1, 61, 0), BAD);
    due("drift(1, 1, 2)", x.drift(1, 1, 2), BAD);
    due("drift(1, 1, -1)", x.drift(1, 1, -1), BAD);
    UncookMill none = new UncookMill();
    due("drift(1, 0, 0), no STUFFS", none.drift(1, 0, 0), BAD);
    due("drift(1, 1, 1), no STUFFS", none.drift(1, 1, 1), STATE);
    due("drift, nothing done", of(KITCHEN.substring(0, KITCHEN.indexOf("have"))).drift(5, 60, 0), 0);
    due("drift, raw alone", of("raw 1 1;have 0 9;").drift(-7, 60, 1), 9);
    driftOnce();
    driftBeginsWithWhatThereIs();
    driftAmongOtherCalls();
  }

  private static void driftOnce() {
    UncookMill x = of("raw 1 1;mix 0 0 1;have 0 40;");
    int cooked = 0;
    for (int seed = 0; seed < 40; seed++) {
      int done = x.drift(seed, 1, 0);
      due("drift, once, is 0 or 1", done == 0 || done == 1 ? 1 : 0, 1);
      due("things behind one", x.drift(seed, 1, 1), 40 - done);
      cooked += done;
    }
    due("at times it CAN be, at times not", cooked > 0 && cooked < 40 ? 1 : 0, 1);
    due("DOINGS behind drifts", x.rule(2), 0);
  }

  private static void driftBeginsWithWhatThereIs() {
    String text = "raw 1 1;raw 1 1;salt 0 1 1;have 2 9;";
    for (int seed = 0; seed < 20; seed++) {
      UncookMill x = of(text);
      UncookMill byHand = of(text);
      x.does(12);
      byHand.does(12);
      due("drift from HALF 1 and DOINGS 1", x.drift(seed, 7, 0), driftByHand(byHand, seed, 7));
      due("things then, by HALF 1", x.drift(seed, 7, 1), byHand.count(0));
      due("HALF behind drift", x.stuff(2, 5), 1);
      due("DOINGS behind drift", x.rule(2), 1);
    }
  }

  private static void driftAmongOtherCalls() {
    UncookMill x = of(KITCHEN);
    UncookMill y = of(KITCHEN);
    x.see(1);
    y.see(1);
    x.keep(0);
    y.keep(0);
    x.does(2);
    y.does(2);
    x.feed(114);
    y.feed(114);
    x.drift(99, 60, 0);
    sameKitchen("drift behind does, see, feed", x, y);
    due("back(0) behind drift", x.back(0), 0);
    y.back(0);
    sameKitchen("back behind drift", x, y);
    x.sheet(0, 0, 2);
    y.sheet(0, 0, 2);
    x.lay(0, 0, 2);
    y.lay(0, 0, 2);
    x.drift(5, 60, 1);
    due("read refused behind drift", x.read(0, 0, 0, 2), -21);
    y.read(0, 0, 0, 2);
    sameKitchen("read refused behind drift", x, y);
  }

  private static void p31Keep() {
    UncookMill x = of(KITCHEN);
    due("keep(0)", x.keep(0), 0);
    due("keep(0)", x.keep(0), 1);
    due("keep(1)", x.keep(1), 0);
    due("keep(2)", x.keep(2), BAD);
    due("keep(-1)", x.keep(-1), BAD);
    due("count(3)", x.count(3), 2);
  }

  private static void p32Back() {
    UncookMill x = of(KITCHEN);
    due("back(0)", x.back(0), STATE);
    due("back(2)", x.back(2), BAD);
    due("back(-1)", x.back(-1), BAD);
    x.eat(0);
    x.see(1);
    x.does(13);
    x.keep(1);
    due("back(0)", x.back(0), STATE);
    x.feeds(0, 9);
    x.price(0, 9);
    x.kind(3, 0);
    x.eat(0);
    x.fill(3, 4);
    x.does(2);
    x.does(13);
    x.kind(3, 3);
    x.does(13);
    x.forget(0);
    x.see(2);
    x.see(2);
    for (int time = 0; time < 2; time++) {
      due("back(1)", x.back(1), 1);
      due("FED", x.rule(1), 1);
      due("DOINGS", x.rule(2), 1);
      due("FEEDS", x.stuff(0, 3), 1);
      due("PRICE", x.stuff(0, 4), 2);
      due("KIND", x.stuff(3, 0), 3);
      due("HALF", x.stuff(3, 5), 1);
      due("THE PANTRY", x.stuff(0, 6), 4);
      due("THE PANTRY", x.stuff(3, 6), 0);
      due("SEEN", x.count(2), 1);
      due("what was SEEN", x.fits(), 2);
      x.eat(0);
      x.forget(0);
      x.see(0);
    }
  }

  private static void p33Sheet() {
    UncookMill x = new UncookMill();
    due("sheet(0, 0, 0)", x.sheet(0, 0, 0), 1);
    due("count(5)", x.count(5), 0);
    due("sheet(0, 1, 40)", x.sheet(0, 1, 40), 1);
    due("count(5)", x.count(5), 40);
    due("sheet(0, 1, 41)", x.sheet(0, 1, 41), BAD);
    due("sheet(0, 1, -1)", x.sheet(0, 1, -1), -14);
    due("sheet(0, 1, least)", x.sheet(0, 1, Integer.MIN_VALUE), -14);
    due("refused changes nothing", x.count(5), 40);
    due("sheet(4, 1, -1)", x.sheet(4, 1, -1), BAD);
    due("sheet(-1, 1, 1)", x.sheet(-1, 1, 1), BAD);
    due("sheet(0, 3, -1)", x.sheet(0, 3, -1), BAD);
    due("sheet(0, -1, 1)", x.sheet(0, -1, 1), BAD);
    due("sheet(3, 2, 5)", x.sheet(3, 2, 5), 1);
    due("count(5)", x.count(5), 40);
  }

  private static void p34Lay() {
    UncookMill x = of(KITCHEN);
    due("lay(0, 0, 1)", x.lay(0, 0, 1), -11);
    due("lay(4, 0, 1)", x.lay(4, 0, 1), BAD);
    due("lay(-1, 0, 1)", x.lay(-1, 0, 1), BAD);
    x.sheet(0, 0, 2);
    x.sheet(1, 1, 2);
    x.sheet(2, 2, 2);
    due("lay(0, 2, 1)", x.lay(0, 2, 1), -12);
    due("lay(0, -1, 1)", x.lay(0, -1, 1), -12);
    due("lay(0, 1, 258)", x.lay(0, 1, 258), 1);
    due("a byte of 258", x.read(0, 0, 1, 1), 1);
    due("lay(1, 1, 258)", x.lay(1, 1, 258), 1);
    due("a short of 258", x.read(1, 1, 1, 1), -20);
    due("lay(1, 1, 65538)", x.lay(1, 1, 65538), 1);
    due("a short of 65538", x.read(1, 1, 1, 1), 1);
    due("lay(2, 1, 65538)", x.lay(2, 1, 65538), 1);
    due("an int of 65538", x.read(2, 2, 1, 1), -20);
    due("lay(0, 0, 128)", x.lay(0, 0, 128), 1);
    due("a byte of 128", x.read(0, 0, 0, 1), -20);
    x.sheet(0, 0, 2);
    due("CELLS 0 anew", x.read(0, 0, 1, 1), -20);
  }

  private static void p35Read() {
    UncookMill x = of(KITCHEN);
    x.sheet(0, 1, 4);
    x.lay(0, 0, 2);
    x.lay(0, 1, 13);
    x.lay(0, 2, 2);
    x.lay(0, 3, 13);
    due("read(4, 1, 0, 1)", x.read(4, 1, 0, 1), BAD);
    due("read(-1, 1, 0, 1)", x.read(-1, 1, 0, 1), BAD);
    due("read(0, 3, 0, 1)", x.read(0, 3, 0, 1), BAD);
    due("read(0, -1, 0, 1)", x.read(0, -1, 0, 1), BAD);
    due("read(0, 1, 0, 21)", x.read(0, 1, 0, 21), BAD);
    due("read(0, 1, 0, -1)", x.read(0, 1, 0, -1), BAD);
    due("read(0, 1, 0, 4), the last refused", x.read(0, 1, 0, 4), -23);
    due("none was", x.rule(2), 0);
    due("none was", x.stuff(2, 6), 0);
    due("none was", x.stuff(3, 6), 1);
    due("none was", x.stuff(3, 5), 0);
    due("read(0, 1, 0, 3)", x.read(0, 1, 0, 3), 3);
    due("DOINGS", x.rule(2), 3);
    due("there", x.stuff(2, 6), 3);
    due("HALF", x.stuff(3, 5), 1);
    due("read(0, 1, 0, 0)", x.read(0, 1, 0, 0), 0);
    x.fill(3, 1);
    due("read(0, 1, 2, 20), INDEX", x.read(0, 1, 2, 20), 2);
    due("those ahead were", x.rule(2), 5);
    due("torn()", x.torn(), 2);
    due("read(0, 1, 3, 2), refused ahead of INDEX", x.read(0, 1, 3, 2), -20);
    due("read(0, 0, 0, 1), CAST", x.read(0, 0, 0, 1), 0);
    due("torn()", x.torn(), 3);
    due("read(1, 0, 0, 1), NULL", x.read(1, 0, 0, 1), 0);
    due("torn()", x.torn(), 1);
    due("read(0, 1, -1, 2)", x.read(0, 1, -1, 2), 0);
    due("torn()", x.torn(), 2);
    due("read(0, 1, greatest, 20)", x.read(0, 1, Integer.MAX_VALUE, 20), 0);
    due("read(0, 1, least, 20)", x.read(0, 1, Integer.MIN_VALUE, 20), 0);
    x.lay(0, 0, 9);
    due("read, no such DOING", x.read(0, 1, 0, 1), -20);
  }

  private static void p36Torn() {
    UncookMill x = of(KITCHEN);
    x.sheet(0, 0, 1);
    due("torn()", x.torn(), 0);
    x.read(1, 0, 0, 1);
    due("torn(), NULL", x.torn(), 1);
    x.read(9, 0, 0, 1);
    due("torn(), BAD is no end", x.torn(), 1);
    x.read(0, 0, 0, 1);
    due("torn(), refused is no end", x.torn(), 1);
    x.lay(0, 5, 5);
    x.sheet(0, 0, -1);
    due("torn(), of read() alone", x.torn(), 1);
    x.read(0, 1, 0, 1);
    due("torn(), CAST", x.torn(), 3);
    x.lay(0, 0, 2);
    x.read(0, 0, 0, 2);
    due("torn(), INDEX", x.torn(), 2);
    x.read(0, 0, 0, 1);
    due("torn(), none", x.torn(), 0);
    x.read(0, 1, 0, 1);
    x.read(0, 0, 0, 0);
    due("torn(), nothing read", x.torn(), 0);
  }

  private static void p37Count() {
    UncookMill x = of(KITCHEN);
    due("count(0)", x.count(0), 12);
    due("count(1)", x.count(1), 10);
    x.see(0);
    due("count(2)", x.count(2), 1);
    x.keep(1);
    due("count(3)", x.count(3), 1);
    x.feed(32);
    due("count(4)", x.count(4), 1);
    due("count(5)", x.count(5), NONE);
    x.sheet(1, 0, 3);
    due("count(5)", x.count(5), NONE);
    x.sheet(0, 0, 7);
    due("count(5)", x.count(5), 7);
    due("count(6)", x.count(6), BAD);
    due("count(-1)", x.count(-1), BAD);
  }

  public static void main(String[] args) {
    p1NewObject(); p2Feed(); p3End(); p4Text(); p5Fault(); p6Rule(); p7Stuff(); p8Fill(); p9Feeds(); p10Price();
    p11Kind(); p12Does(); p13Eat(); p14Can(); p15Most(); p16Holds(); p17Cost(); p18Turns(); p19Comes(); p20After();
    p21First(); p22Loss(); p23Mean(); p24Best(); p25Least(); p26See(); p27Forget(); p28Fits(); p29Pairs(); p30Drift();
    p31Keep(); p32Back(); p33Sheet(); p34Lay(); p35Read(); p36Torn(); p37Count();
    System.out.println("PromisesTest: " + asked + " answers, " + wrong + " wrong");
    if (wrong != 0) System.exit(1);
  }
}
