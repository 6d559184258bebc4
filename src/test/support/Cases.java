import java.util.ArrayList;
import java.util.List;

// What the tests of boundaries share. Each case has a sentence of its own and objects of its own. What is refused is
// held against a twin that was not asked: every later call must answer alike.
abstract class Cases {
  static final int BAD = -1, STATE = -2, FULL = -3, NONE = -4;
  static final int MIN = Integer.MIN_VALUE, MAX = Integer.MAX_VALUE;
  static int cases = 0;
  static int wrong = 0;

  /** Calls that lead to where a case begins. */
  interface Beginning { void on(UncookMill x); }
  interface Call { long on(UncookMill x); }
  interface CallWith { long on(UncookMill x, int number); }
  /** Calls that show the state; what they answer is gathered. */
  interface Probe { void on(UncookMill x, List<Long> answers); }

  // ---- how a case is held

  static void tell(String what) {
    wrong++;
    System.out.println(what);
  }

  static UncookMill from(Beginning before) {
    UncookMill x = new UncookMill();
    before.on(x);
    return x;
  }

  static void write(UncookMill x, String text) {
    for (int i = 0; i < text.length(); i++) x.feed(text.charAt(i));
  }

  static Beginning told(String text) {
    return x -> {
      write(x, text);
      if (x.text() < 0) tell("a text of the tests is refused: " + text);
    };
  }

  static Beginning then(Beginning before, Beginning more) {
    return x -> {
      before.on(x);
      more.on(x);
    };
  }

  /** A run of calls on one object, each with the answer that is due. */
  static final class Run {
    private final String sentence;
    private final UncookMill x;
    private int calls = 0;

    Run(String sentence, Beginning before) {
      cases++;
      this.sentence = sentence;
      x = from(before);
    }

    Run due(long want, Call call) {
      calls++;
      long got = call.on(x);
      if (got != want) tell(sentence + ": call " + calls + " answered " + got + ", due is " + want);
      return this;
    }
  }

  static Run run(String sentence, Beginning before) {
    return new Run(sentence, before);
  }

  /** The call answers so, and all is as it was, as later calls show. */
  static void leaves(String sentence, Beginning before, Call call, long want) {
    cases++;
    long got = call.on(from(before));
    if (got != want) tell(sentence + ": answered " + got + ", due is " + want);
    alike(sentence, then(before, x -> call.on(x)), before, ALL);
  }

  static void alike(String sentence, Beginning one, Beginning other, Probe[] probes) {
    for (int p = 0; p < probes.length; p++) {
      List<Long> got = new ArrayList<>();
      List<Long> want = new ArrayList<>();
      probes[p].on(from(one), got);
      probes[p].on(from(other), want);
      if (!got.equals(want)) tell(sentence + ": the state is another one, probe " + p + ": " + got + ", due " + want);
    }
  }

  /** A number's bounds: outside of them, near and far, BAD and nothing changed; at both ends taken. */
  static void bounds(String number, int least, int most, CallWith call) {
    tooSmall(number, least, call);
    for (int v : new int[] {most + 1, MAX}) leaves(number + ", " + v + " is too large", BUSY, x -> call.on(x, v), BAD);
    taken(number, most, call);
  }

  static void tooSmall(String number, int least, CallWith call) {
    for (int v : new int[] {least - 1, MIN}) leaves(number + ", " + v + " is too small", BUSY, x -> call.on(x, v), BAD);
    taken(number, least, call);
  }

  static void taken(String number, int v, CallWith call) {
    cases++;
    if (call.on(from(BUSY), v) == BAD) tell(number + ", " + v + " is BAD");
  }

  // ---- what shows the state (with its beginning, no more than 512 calls each)

  static void looks(UncookMill x, List<Long> a) {
    for (int what = 0; what <= 4; what++) a.add((long) x.rule(what));
    for (int m = 0; m < 8; m++)
      for (int what = 0; what <= 6; what++) a.add((long) x.stuff(m, what));
    for (int what = 0; what <= 5; what++) a.add((long) x.count(what));
    for (int what = 0; what <= 1; what++) a.add((long) x.can(what));
    for (int m = 0; m < 8; m++) a.add((long) x.turns(m, 1));
    a.add((long) x.fits());
    a.add((long) x.pairs(1));
    a.add((long) x.drift(3, 20, 1));
    a.add((long) x.best(2, 0));
    a.add((long) x.torn());
  }

  static void whatWasSeen(UncookMill x, List<Long> a) {
    for (int n = x.count(2); n > 0; n--) {
      a.add((long) x.fits());
      a.add((long) x.pairs(1));
      a.add((long) x.forget(n - 1));
    }
    for (int n = 1; n <= 9; n++) a.add((long) x.see(0));
  }

  static void firstImage(UncookMill x, List<Long> a) {
    a.add((long) x.back(0));
    looks(x, a);
    whatWasSeen(x, a);
  }

  static void otherImage(UncookMill x, List<Long> a) {
    a.add((long) x.back(1));
    looks(x, a);
    whatWasSeen(x, a);
  }

  static void theTape(UncookMill x, List<Long> a) {
    a.add((long) x.count(4));
    a.add((long) x.text());
    a.add((long) x.fault());
    looks(x, a);
  }

  static void theFault(UncookMill x, List<Long> a) {
    a.add((long) x.fault());
  }

  /** CELLS are shown by the DOINGS that they tell. */
  static void cellsAndLanes(UncookMill x, List<Long> a) {
    for (int k = 0; k < 4; k++)
      for (int lane = 0; lane < 3; lane++) {
        a.add((long) x.read(k, lane, 0, 1));
        a.add((long) x.torn());
      }
    for (int k = 0; k < 3; k++)
      for (int i = 0; i < 4; i++) {
        a.add((long) x.read(k, k, i, 1));
        for (int m = 0; m < 7; m++) a.add((long) x.stuff(m, 6));
      }
  }

  static void lengths(UncookMill x, List<Long> a) {
    for (int k = 0; k < 4; k++)
      for (int i = 0; i <= 40; i++) a.add((long) x.lay(k, i, 1));
  }

  static final Probe[] ALL = {Cases::looks, Cases::whatWasSeen, Cases::firstImage, Cases::otherImage,
      Cases::cellsAndLanes, Cases::lengths, Cases::theTape, Cases::theFault};
  static final Probe[] BUT_TAPE = {Cases::looks, Cases::whatWasSeen, Cases::firstImage, Cases::otherImage,
      Cases::cellsAndLanes, Cases::lengths};
  static final Probe[] BUT_FIRST_IMAGE = {Cases::looks, Cases::whatWasSeen, Cases::otherImage,
      Cases::cellsAndLanes, Cases::lengths, Cases::theTape, Cases::theFault};

  // ---- kitchens

  /** 0, 1 raw; 2 mixed, 3 salted, 4 boiled, 5 burnt, 6 mixed of two alike. */
  static final String SEVEN =
      "raw2 1;raw3 5;mix0 1 4;salt2 1 5;boil3 0 9;burn4 2 1;mix3 3 7;have0 9;have1 9;have3 5;have6 1;";
  static final String EIGHT_RAW = "raw1 1;raw1 1;raw1 1;raw1 1;raw1 1;raw1 1;raw1 1;raw1 1;";
  static final String[] NAMES = {"mix", "boil", "burn", "salt"};
  static final int MIXED = 0, BOILED = 1, BURNT = 2, SALTED = 3;
  static final Beginning NEW = x -> { };

  /** Everything is other than at first: HALVES, FED, DOINGS, SEEN, two IMAGES, three SHEETS, a FAULT each, a TAPE. */
  static final Beginning BUSY = x -> {
    told(SEVEN).on(x);
    x.see(1);
    x.eat(1);
    x.keep(0);
    x.does(13);
    x.does(2);
    x.eat(0);
    x.feeds(1, 4);
    x.price(0, 7);
    x.kind(4, 3);
    x.forget(0);
    x.see(0);
    x.see(1);
    x.keep(1);
    x.does(4);
    x.does(14);
    x.see(0);
    x.kind(4, 1);
    x.price(1, 6);
    x.sheet(0, 0, 4);
    x.sheet(1, 1, 3);
    x.sheet(2, 2, 2);
    x.lay(0, 0, 2);
    x.lay(0, 1, 13);
    x.lay(0, 2, 12);
    x.lay(0, 3, 16);
    x.lay(1, 0, 4);
    x.lay(1, 2, 2);
    x.lay(2, 0, 13);
    x.lay(2, 1, 3);
    x.read(0, 0, 3, 2);
    x.feed('#');
    x.text();
    write(x, "raw 4 4;mix 0 0 3;");
  };

  static final Beginning BUSY_NO_TAPE = then(BUSY, x -> x.end(0));

  static final Beginning BRIM = x -> {
    for (int i = 0; i < 160; i++) x.feed(32);
  };

  /** Two raw STUFFS (FEEDS 1), then what the text tells; so many there are of each. */
  static Beginning there(String text, int... n) {
    return x -> {
      told("raw1 1;raw1 1;" + text).on(x);
      for (int m = 0; m < n.length; m++) x.fill(m, n[m]);
    };
  }

  /** As there(), but HALF of the salted STUFF 2 is 1 (by one DOING). */
  static Beginning halved(String text, int... n) {
    return x -> {
      there(text, 0, 0, 1).on(x);
      x.does(12);
      for (int m = 0; m < n.length; m++) x.fill(m, n[m]);
    };
  }

  /** STUFF 0 raw at 9; each other one of two alike: STUFF 7 of 128 raw ones. */
  static Beginning doubling(String name) {
    StringBuilder text = new StringBuilder("raw9 1;");
    for (int m = 0; m < 7; m++) text.append(name).append(m).append(' ').append(m).append(" 1;");
    return told(text.toString());
  }

  static Beginning seen(Beginning before, int... stuffs) {
    return then(before, x -> {
      for (int s : stuffs) x.see(s);
    });
  }

  static void fillAll(UncookMill x, int n) {
    for (int m = 0; m < 8; m++) x.fill(m, n);
  }

  static void end(String test) {
    System.out.println(test + ": " + cases + " cases, " + wrong + " wrong");
    if (wrong != 0) System.exit(1);
  }
}
