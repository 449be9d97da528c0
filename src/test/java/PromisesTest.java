/** The document's promises one by one: ordinary inputs, edges, wrong inputs. */
public final class PromisesTest {
  private static final int BAD = -1, NOT = -2, FULL = -3, STATE = -5, LONG = -7;
  private static final int NOTHING = -11, PLACE = -13, SIZE = -14;
  private static final int LOW = Integer.MIN_VALUE, HIGH = Integer.MAX_VALUE;
  private static int wrong = 0;

  private static void due(String what, long got, long want) {
    if (got == want) return;
    wrong++;
    System.out.println(what + " answered " + got + ", due is " + want);
  }

  public static void main(String[] args) {
    newObject(); supply(); supplied(); share(); group();
    feed(); orders(); faults(); twentyFifth(); of();
    promise(); promiseAll(); giveUp(); gone(); move(); swap();
    left(); hinders(); could(); spare(); filled(); filledEdges(); range(); rangeEdges();
    late(); kept(); why(); ledger();
    row(); put(); get(); from(); lefts();
    undo(); undoOrders(); redo(); image(); back(); count();
    fullHouse(); untouched();
    System.out.println(wrong == 0 ? "promises 1 to 34: all as due" : wrong + " answers are not as due");
    if (wrong != 0) System.exit(1);
  }

  /** ORDERS by a text. */
  private static int tell(PromiseMind x, String text) {
    for (int i = 0; i < text.length(); i++) x.feed(text.charAt(i));
    return x.orders();
  }

  private static PromiseMind with(String text) {
    PromiseMind x = new PromiseMind();
    tell(x, text);
    return x;
  }

  /** 5 of a in 0, 9 in 3; 6 of b in 1; 20 of c in 2. */
  private static PromiseMind stocked(String text) {
    PromiseMind x = with(text);
    x.supply(0, 0, 5);
    x.supply(0, 3, 9);
    x.supply(1, 1, 6);
    x.supply(2, 2, 20);
    return x;
  }

  private static String ledgerOf(PromiseMind x, int order) {
    StringBuilder s = new StringBuilder();
    int n = x.ledger(order, -1);
    for (int i = 0; i < n; i++) s.append((char) x.ledger(order, i));
    return s.toString();
  }

  private static void dueText(String what, String got, String want) {
    if (got.equals(want)) return;
    wrong++;
    System.out.println(what + " is \"" + got + "\", due is \"" + want + "\"");
  }

  private static void newObject() {
    PromiseMind x = new PromiseMind();
    for (int item = 0; item < 3; item++) {
      for (int p = 0; p < 12; p++) due("1 supplied(" + item + ", " + p + ")", x.supplied(item, p), 0);
    }
    for (int what = 0; what < 9; what++) due("1 count(" + what + ")", x.count(what), 0);
    for (int g = 0; g < 4; g++) due("1 group(" + g + ", 0)", x.group(g, 0), 100);
    for (int shelf = 0; shelf < 4; shelf++) due("1 put(" + shelf + ", 0, 1)", x.put(shelf, 0, 1), NOTHING);
    due("1 back()", x.back(), STATE);
    PromiseMind y = new PromiseMind();
    x.supply(0, 0, 7);
    due("1 the other's SUPPLY", y.supplied(0, 0), 0);
  }

  private static void supply() {
    PromiseMind x = new PromiseMind();
    due("2 supply", x.supply(0, 0, 99), 0);
    due("2 supply again", x.supply(0, 0, 0), 99);
    due("2 supply the same", x.supply(0, 0, 0), 0);
    due("2 supply last", x.supply(2, 11, 8), 0);
    due("2 supply last again", x.supply(2, 11, 9), 8);
    due("2 CHANGES", x.count(5), 5);
    int[][] bad = {{-1, 0, 1}, {3, 0, 1}, {0, -1, 1}, {0, 12, 1}, {0, 0, -1}, {0, 0, 100}, {HIGH, 0, 1}, {LOW, 0, 1},
        {0, HIGH, 1}, {0, LOW, 1}, {0, 0, HIGH}, {0, 0, LOW}};
    for (int[] b : bad) due("2 supply(" + b[0] + ", " + b[1] + ", " + b[2] + ")", x.supply(b[0], b[1], b[2]), BAD);
    due("2 CHANGES but refused ones", x.count(5), 5);
  }

  private static void supplied() {
    PromiseMind x = new PromiseMind();
    for (int i = 0; i < 36; i++) x.supply(i / 12, i % 12, i + 1);
    for (int i = 0; i < 36; i++) due("3 supplied " + i, x.supplied(i / 12, i % 12), i + 1);
    due("3 item -1", x.supplied(-1, 0), BAD);
    due("3 item 3", x.supplied(3, 0), BAD);
    due("3 period -1", x.supplied(1, -1), BAD);
    due("3 period 12", x.supplied(0, 12), BAD);
  }

  private static void share() {
    PromiseMind x = new PromiseMind();
    due("4 share", x.share(0, 0), 100);
    due("4 share again", x.share(0, 33), 0);
    due("4 share the same", x.share(0, 33), 33);
    due("4 share of 3", x.share(3, 100), 100);
    due("4 CHANGES", x.count(5), 4);
    due("4 group -1", x.share(-1, 5), BAD);
    due("4 group 4", x.share(4, 5), BAD);
    due("4 n -1", x.share(0, -1), BAD);
    due("4 n 101", x.share(0, 101), BAD);
    due("4 CHANGES but refused ones", x.count(5), 4);
    due("4 SHARE", x.group(0, 0), 33);
  }

  private static void group() {
    PromiseMind x = stocked("6c@5g1;5c@5g1;3a@5g2;4b@5g1");
    x.share(1, 33);
    due("5 SHARE", x.group(1, 0), 33);
    due("5 how much, cut", x.group(1, 1), 13);
    due("5 how much of all", x.group(2, 1), 40);
    due("5 nothing PROMISED", x.group(1, 2), 0);
    x.promise(0);
    x.promise(2);
    due("5 AMOUNTS of 1", x.group(1, 2), 6);
    due("5 AMOUNTS of 2", x.group(2, 2), 3);
    x.promise(1);
    due("5 AMOUNTS of 1, two", x.group(1, 2), 11);
    x.gone(0);
    due("5 AMOUNTS of 1, one gone", x.group(1, 2), 5);
    due("5 group -1", x.group(-1, 0), BAD);
    due("5 group 4", x.group(4, 0), BAD);
    due("5 what -1", x.group(0, -1), BAD);
    due("5 what 3", x.group(0, 3), BAD);
  }

  private static void feed() {
    PromiseMind x = new PromiseMind();
    due("6 feed blank", x.feed(32), 1);
    due("6 feed ~", x.feed(126), 2);
    due("6 feed 31", x.feed(31), BAD);
    due("6 feed 127", x.feed(127), BAD);
    due("6 feed low", x.feed(LOW), BAD);
    due("6 feed '1' and 65536", x.feed(65536 + 49), BAD);
    due("6 bytes", x.count(4), 2);
    for (int n = 3; n <= 100; n++) due("6 feed the " + n + "th", x.feed('a'), n);
    due("6 feed the 101st", x.feed('a'), FULL);
    due("6 feed the 101st, BAD ahead of FULL", x.feed(200), BAD);
    due("6 bytes stay", x.count(4), 100);
    due("6 orders", x.orders(), -100);
    due("6 feed behind", x.feed('a'), 1);
    PromiseMind y = new PromiseMind();
    StringBuilder s = new StringBuilder();
    for (int i = 0; i < 20; i++) s.append("1a@1;");
    due("6 a TEXT of 100 bytes", tell(y, s.toString()), -200);
    s = new StringBuilder("10abc@11g3r9");
    for (int i = 0; i < 8; i++) s.append(";1ab@11g2r3");
    due("6 length", s.length(), 100);
    due("6 a right TEXT of 100 bytes", tell(y, s.toString()), 9);
    due("6 its last RANK", y.of(8, 4), 3);
  }

  private static void orders() {
    PromiseMind x = new PromiseMind();
    due("7 two", tell(x, "6a@2;05cb@04g1r3"), 2);
    due("7 TAPE", x.count(4), 0);
    due("7 one more", tell(x, "60bac@11r0"), 3);
    due("7 whole or nothing", tell(x, "1a@0;1a@0;1a@0x"), -114);
    due("7 TAPE behind a FAULT", x.count(4), 0);
    due("7 ORDERS behind a FAULT", x.count(0), 3);
    due("7 AMOUNT with 0 ahead", x.of(1, 0), 5);
    due("7 LATEST with 0 ahead", x.of(1, 2), 4);
    due("7 letters in any order", x.of(2, 1), 7);
    due("7 no CHANGE", x.count(5), 0);
    due("7 next", tell(x, "2c@00"), 4);
    due("7 next LATEST", x.of(3, 2), 0);
    due("7 next GROUP", x.of(3, 3), 0);
    due("7 next RANK", x.of(3, 4), 0);
  }

  private static void faults() {
    Object[][] cases = {{"", 0}, {"x", 0}, {"a", 0}, {";", 0}, {" 6a@1", 0}, {"0", 0}, {"00a@1", 0}, {"61", 0}, {"99x", 0},
        {"0x", 0}, {"6", 1}, {"60", 2}, {"100a@1", 2}, {"610a@1", 0}, {"6d@1", 1}, {"6A@1", 1}, {"6@1", 1}, {"6 a@1", 1},
        {"6a", 2}, {"6aa@1", 2}, {"6aba@1", 3}, {"6abca@1", 4}, {"6abcd@1", 4}, {"6a1", 2}, {"6a@", 3}, {"6a@a", 3},
        {"6a@12", 3}, {"6a@99g1", 3}, {"6a@111", 5}, {"6a@011", 5}, {"6a@1x", 4}, {"6a@1 ", 4}, {"6a@1@", 4}, {"6a@1a", 4},
        {"6a@1g", 5}, {"6a@1g4", 5}, {"6a@1gr1", 5}, {"6a@1g11", 6}, {"6a@1r", 5}, {"6a@1rx", 5}, {"6a@1r11", 6},
        {"6a@1r1g1", 6}, {"6a@1r1r1", 6}, {"6a@1g1g1", 6}, {"6a@1g1r", 7}, {"6a@1g1r9;", 9}, {"6a@1;;", 5},
        {"6a@1;0a@1", 5}, {"6a@1;61a@1", 5}, {"6a@1;6a@12;0a@1", 8}, {"6aa@12", 2}, {"0aa@12", 0}};
    for (Object[] c : cases) {
      PromiseMind x = new PromiseMind();
      due("7 FAULT of \"" + c[0] + "\"", tell(x, (String) c[0]), -100 - (Integer) c[1]);
      due("7 ORDERS behind \"" + c[0] + "\"", x.count(0), 0);
      due("7 TAPE behind \"" + c[0] + "\"", x.count(4), 0);
    }
  }

  private static void twentyFifth() {
    PromiseMind x = new PromiseMind();
    due("7 twelve", tell(x, "1a@0;1a@0;1a@0;1a@0;1a@0;1a@0;1a@0;1a@0;1a@0;1a@0;1a@0;1a@0"), 12);
    due("7 twenty-two", tell(x, "1a@0;1a@0;1a@0;1a@0;1a@0;1a@0;1a@0;1a@0;1a@0;1a@0"), 22);
    due("7 a 25th", tell(x, "1a@0;1a@0;1a@0"), -110);
    due("7 a 25th, another FAULT in it", tell(x, "1a@0;1a@0;x"), -110);
    due("7 a 25th, nothing there", tell(x, "1a@0;1a@0;"), -110);
    due("7 a FAULT ahead of the 25th", tell(x, "1a@0;0a@0;1a@0"), -105);
    due("7 none came", x.count(0), 22);
    due("7 twenty-four", tell(x, "1a@0;59c@11"), 24);
    due("7 the last", x.of(23, 0), 59);
    due("7 a 25th at once", tell(x, "1a@0"), -100);
    due("7 a 25th, an empty TAPE", x.orders(), -100);
    x.gone(3);
    due("7 GONE ones stay ORDERS", tell(x, "1a@0"), -100);
    due("7 still", x.count(0), 24);
  }

  private static void of() {
    PromiseMind x = stocked("6a@2;5ab@4g1r3;9c@2g3r9");
    int[][] want = {{6, 1, 2, 0, 0, 0, 0}, {5, 3, 4, 1, 3, 0, 0}, {9, 4, 2, 3, 9, 0, 0}};
    for (int o = 0; o < 3; o++) {
      for (int what = 0; what < 7; what++) due("8 of(" + o + ", " + what + ")", x.of(o, what), want[o][what]);
    }
    x.promise(2);
    x.gone(1);
    due("8 PROMISED", x.of(2, 5), 1);
    due("8 GONE", x.of(1, 5), 2);
    x.move(0, 7);
    due("8 LATEST moved", x.of(0, 2), 7);
    x.supply(2, 2, 8);
    due("8 LATE", x.of(2, 6), 1);
    due("8 LATE is PROMISED still", x.of(2, 5), 1);
    due("8 order -1", x.of(-1, 0), BAD);
    due("8 order 3", x.of(3, 0), BAD);
    due("8 what -1", x.of(0, -1), BAD);
    due("8 what 7", x.of(0, 7), BAD);
  }

  private static void promise() {
    PromiseMind x = stocked("6a@2;5ab@4g1r3;9c@2;4abc@11;12b@11g2;9ac@3g3");
    due("9 too much", x.promise(0), NOT);
    due("9 one", x.promise(1), 1);
    due("9 two", x.promise(2), 2);
    due("9 it is PROMISED", x.promise(1), STATE);
    x.share(3, 22);
    due("9 no SHARE", x.promise(5), NOT);
    x.share(3, 23);
    x.share(1, 0);
    due("9 its SHARE suffices, another's doesn't", x.promise(5), 3);
    x.gone(0);
    due("9 it is GONE", x.promise(0), STATE);
    due("9 order -1", x.promise(-1), BAD);
    due("9 order 6", x.promise(6), BAD);
    due("9 CHANGES", x.count(5), 11);
    x.supply(2, 2, 3);
    due("9 those that are can't be MET", x.promise(3), NOT);
    PromiseMind y = stocked("6ab@1g1;5ab@1g1");
    due("9 the whole", y.promise(0), 1);
    due("9 all that is there", y.promise(1), 2);
    PromiseMind z = stocked("6c@3g1;6c@3g1");
    z.share(1, 29);
    due("9 one of a GROUP", z.promise(0), 1);
    due("9 SHARE for one only", z.promise(1), NOT);
  }

  private static void promiseAll() {
    PromiseMind x = stocked("9c@2r1;9c@2r5;9c@2r5;3a@0r0;3a@0r9;2c@2r1");
    due("10 all that can", x.promiseAll(), 4);
    int[] want = {0, 1, 1, 0, 1, 1};
    for (int o = 0; o < 6; o++) due("10 what " + o + " is", x.of(o, 5), want[o]);
    due("10 CHANGES", x.count(5), 5);
    due("10 none", x.promiseAll(), 0);
    due("10 a CHANGE, too", x.count(5), 6);
    x.undo();
    due("10 undo one for all", x.undo(), 4);
    due("10 none is PROMISED", x.count(2), 0);
    PromiseMind y = stocked("9c@2g1;9c@2g1r2;2c@2g0");
    y.share(1, 25);
    due("10 SHARE", y.promiseAll(), 2);
    due("10 the greater RANK has it", y.of(1, 5), 1);
    due("10 the other not", y.of(0, 5), 0);
    y.supply(2, 2, 0);
    tell(y, "1a@5");
    due("10 those that are can't be MET", y.promiseAll(), 0);
    y.supply(2, 2, 20);
    y.gone(0);
    due("10 GONE ones stay GONE", y.promiseAll(), 1);
    due("10 GONE", y.of(0, 5), 2);
    due("10 new", new PromiseMind().promiseAll(), 0);
    PromiseMind z = stocked("9c@2g1;1c@2g1;1a@9g2");
    z.share(1, 25);
    z.share(2, 0);
    due("10 just the SHARE", z.promiseAll(), 2);
    due("10 not 1 of none", z.of(2, 5), 0);
  }

  private static void giveUp() {
    PromiseMind x = stocked("9c@2;2c@2");
    due("11 it is ASKED", x.giveUp(0), STATE);
    x.promiseAll();
    due("11 given up", x.giveUp(0), 1);
    due("11 ASKED", x.of(0, 5), 0);
    due("11 again", x.giveUp(0), STATE);
    due("11 the other", x.giveUp(1), 0);
    x.gone(1);
    due("11 it is GONE", x.giveUp(1), STATE);
    due("11 order 2", x.giveUp(2), BAD);
    due("11 order -1", x.giveUp(-1), BAD);
    due("11 CHANGES", x.count(5), 8);
  }

  private static void gone() {
    PromiseMind x = stocked("9c@2;2c@2;1a@1");
    x.promise(0);
    x.promise(1);
    due("12 an ASKED one", x.gone(2), 2);
    due("12 a PROMISED one", x.gone(0), 1);
    due("12 GONE", x.of(0, 5), 2);
    due("12 again", x.gone(0), STATE);
    due("12 order 3", x.gone(3), BAD);
    due("12 order -1", x.gone(-1), BAD);
    due("12 CHANGES", x.count(5), 8);
    due("12 what it had is LEFT", x.left(1212 + 120000), 40 - 2);
  }

  private static void move() {
    PromiseMind x = stocked("5ab@4;9c@2;6a@0");
    x.promise(0);
    x.promise(1);
    due("13 PROMISED", x.move(0, 1), 4);
    due("13 LATEST", x.of(0, 2), 1);
    due("13 can't be MET", x.move(1, 1), NOT);
    due("13 LATEST stays", x.of(1, 2), 2);
    due("13 ASKED, anywhere", x.move(2, 1), 0);
    due("13 the same", x.move(2, 1), 1);
    due("13 CHANGES", x.count(5), 9);
    due("13 period -1", x.move(0, -1), BAD);
    due("13 period 12", x.move(0, 12), BAD);
    due("13 order 3", x.move(3, 0), BAD);
    x.gone(2);
    due("13 GONE", x.move(2, 3), STATE);
    due("13 BAD ahead of STATE", x.move(2, 12), BAD);
    x.share(0, 0);
    due("13 SHARES don't matter", x.move(0, 0), 1);
    x.supply(2, 2, 8);
    due("13 another can't be MET", x.move(0, 0), NOT);
    x.supply(2, 7, 1);
    due("13 MET by moving", x.move(1, 7), 2);
  }

  private static void swap() {
    PromiseMind x = stocked("3a@4;9c@2;2c@9;5a@2");
    x.promise(0);
    x.promise(1);
    x.promise(2);
    due("14 swapped", x.swap(1, 2), 1);
    due("14 LATEST of one", x.of(1, 2), 9);
    due("14 LATEST of the other", x.of(2, 2), 2);
    due("14 one ASKED", x.swap(0, 3), STATE);
    due("14 the other ASKED", x.swap(3, 0), STATE);
    due("14 one and the same", x.swap(1, 1), BAD);
    due("14 one and the same ASKED", x.swap(3, 3), BAD);
    due("14 order -1", x.swap(-1, 1), BAD);
    due("14 other 4", x.swap(1, 4), BAD);
    x.share(0, 0);
    due("14 SHARES don't matter", x.swap(0, 1), 1);
    due("14 LATEST of a", x.of(0, 2), 9);
    due("14 another two", x.swap(0, 2), 1);
    x.supply(2, 2, 0);
    x.supply(2, 4, 20);
    x.move(2, 9);
    due("14 moved to be MET", x.late(), 0);
    due("14 not MET", x.swap(1, 0), NOT);
    due("14 LATEST stays", x.of(1, 2), 4);
    due("14 LATEST of the other stays", x.of(0, 2), 2);
    x.supply(2, 4, 0);
    x.supply(2, 9, 20);
    due("14 one is LATE", x.late(), 1);
    due("14 still one would be", x.swap(2, 1), NOT);
    x.gone(2);
    tell(x, "1a@11");
    x.share(0, 100);
    due("14 none is PROMISED meanwhile", x.promise(4), NOT);
    x.supply(2, 4, 9);
    x.promise(4);
    x.supply(2, 4, 0);
    due("14 all MET by swapping", x.swap(4, 1), 1);
    due("14 none LATE", x.late(), 0);
    PromiseMind y = stocked("3a@4;2a@4");
    y.promiseAll();
    due("14 alike", y.swap(0, 1), 1);
    due("14 a CHANGE, too", y.count(5), 6);
  }

  private static void left() {
    PromiseMind x = stocked("5ab@4;9c@2;2abc@6");
    x.promiseAll();
    due("15 nothing up to nothing", x.left(0), 0);
    due("15 a in 0", x.left(10000), 5);
    due("15 a up to 2", x.left(30000), 5);
    due("15 a up to 3", x.left(40000), 14);
    due("15 a, b up to 3", x.left(40400), 20);
    due("15 a, b up to 4", x.left(50500), 15);
    due("15 a up to 4, b up to 3", x.left(50400), 20);
    due("15 c up to 1", x.left(2), 0);
    due("15 c up to 2", x.left(3), 11);
    due("15 all up to 5", x.left(60606), 26);
    due("15 all up to 6", x.left(70707), 24);
    due("15 all", x.left(121212), 24);
    int[] bad = {-1, LOW, HIGH, 130000, 1300, 13, 99, 9900, 121213, 121312, 131212, 1000000};
    for (int b : bad) due("15 left(" + b + ")", x.left(b), -10000);
    x.supply(2, 2, 0);
    due("15 below 0", x.left(3), -9);
    x.share(0, 0);
    due("15 SHARES don't matter", x.left(121212), 4);
  }

  private static void hinders() {
    PromiseMind x = stocked("6a@2;5ab@4;12b@11g2;9ac@2");
    due("16 the STEP", x.hinders(0, -1), 30000);
    due("16 what would be LEFT", x.hinders(0, 0), 99999);
    due("16 nothing", x.hinders(1, -1), NOT);
    due("16 nothing, either", x.hinders(1, 0), NOT);
    due("16 the least q1 of several", x.hinders(2, -1), 1200);
    x.promise(1);
    due("16 PROMISED", x.hinders(1, 0), STATE);
    x.share(0, 0);
    due("16 its SHARE aside", x.hinders(3, 0), NOT);
    due("16 part 1", x.hinders(0, 1), BAD);
    due("16 part -2", x.hinders(0, -2), BAD);
    due("16 order 4", x.hinders(4, 0), BAD);
    x.gone(0);
    due("16 GONE", x.hinders(0, 0), STATE);
    x.supply(2, 2, 0);
    due("16 less", x.hinders(3, -1), 30003);
    due("16 less LEFT", x.hinders(3, 0), 99996);
    PromiseMind y = stocked("5c@2;1a@0;4b@3");
    y.promise(0);
    y.supply(2, 2, 0);
    due("16 those that are hinder", y.hinders(1, -1), 3);
    due("16 how much", y.hinders(1, 0), 99995);
    PromiseMind z = with("3a@5;3c@1;4bc@3");
    due("16 the least q0 of one ITEM", z.hinders(0, -1), 60000);
    due("16 both its ITEMS", z.hinders(2, -1), 404);
    z.supply(0, 0, 3);
    z.supply(2, 0, 3);
    z.promise(0);
    z.promise(1);
    z.supply(0, 0, 0);
    z.supply(2, 0, 0);
    due("16 three together", z.hinders(2, -1), 60404);
    due("16 three together LEFT", z.hinders(2, 0), 99990);
  }

  private static void could() {
    PromiseMind x = stocked("6a@2;5ab@4;12b@11g2;4abc@11;60c@9;2a@0");
    due("17 EARLIEST", x.could(0, 0), 3);
    due("17 AS MUCH", x.could(0, 1), 5);
    due("17 EARLIEST 0", x.could(1, 0), 0);
    due("17 AS MUCH of two ITEMS", x.could(1, 1), 20);
    due("17 by none", x.could(2, 0), NOT);
    due("17 less", x.could(2, 1), 6);
    x.promise(1);
    due("17 PROMISED is thought not to be", x.could(1, 1), 20);
    due("17 EARLIEST, too", x.could(1, 0), 0);
    due("17 beside it", x.could(0, 1), 5);
    due("17 EARLIEST beside it", x.could(5, 0), 0);
    x.share(2, 10);
    due("17 AS MUCH of the SHARE", x.could(2, 1), 4);
    x.share(0, 17);
    due("17 SHARE with those of its GROUP", x.could(0, 1), 1);
    due("17 EARLIEST by SHARE", x.could(0, 0), NOT);
    due("17 its own AMOUNT doesn't count in its SHARE", x.could(1, 1), 6);
    x.share(0, 28);
    due("17 EARLIEST by just the SHARE", x.could(0, 0), 3);
    due("17 AS MUCH by just the SHARE", x.could(1, 1), 11);
    x.share(0, 27);
    due("17 EARLIEST by just not the SHARE", x.could(0, 0), NOT);
    x.share(0, 100);
    x.move(5, 0);
    x.supply(0, 0, 0);
    due("17 by none AS MUCH", x.could(5, 1), NOT);
    due("17 later", x.could(5, 0), 3);
    x.gone(5);
    due("17 GONE", x.could(5, 0), STATE);
    due("17 what 2", x.could(5, 2), BAD);
    due("17 what -1", x.could(0, -1), BAD);
    due("17 order 6", x.could(6, 0), BAD);
    x.supply(1, 1, 0);
    x.supply(0, 3, 0);
    due("17 the others can't be MET", x.could(4, 1), NOT);
    due("17 the others can't be MET, EARLIEST", x.could(3, 0), NOT);
    due("17 it is what can't be MET", x.could(1, 0), NOT);
    x.supply(2, 3, 99);
    x.supply(1, 11, 5);
    x.move(1, 11);
    due("17 at most 60", x.could(4, 1), 60);
  }

  private static void spare() {
    PromiseMind x = stocked("5ab@4;9c@2");
    due("18 nothing PROMISED", x.spare(7, 11), 40);
    x.promiseAll();
    due("18 a", x.spare(1, 11), 14);
    due("18 b", x.spare(2, 11), 6);
    due("18 a, b", x.spare(3, 11), 15);
    due("18 a, b up to 3", x.spare(3, 3), 15);
    due("18 a, b up to 1", x.spare(3, 1), 11);
    due("18 c up to 2", x.spare(4, 2), 11);
    due("18 c up to 1", x.spare(4, 1), 0);
    due("18 all", x.spare(7, 11), 26);
    x.supply(2, 4, 99);
    x.share(0, 0);
    due("18 no bound, no SHARE", x.spare(4, 4), 110);
    due("18 items 0", x.spare(0, 1), BAD);
    due("18 items 8", x.spare(8, 1), BAD);
    due("18 latest -1", x.spare(1, -1), BAD);
    due("18 latest 12", x.spare(1, 12), BAD);
    x.supply(2, 2, 8);
    due("18 these can't be MET", x.spare(1, 11), 0);
  }

  private static void filled() {
    PromiseMind x = stocked("6a@2;5ab@4g1r3;9c@2;4abc@11;12b@11g2");
    due("19 bits", x.filled(0), 14);
    due("19 AMOUNT", x.filled(1), 18);
    x.promise(1);
    due("19 by how manieth ASKED", x.filled(0), 6);
    due("19 AMOUNT beside", x.filled(1), 13);
    x.share(0, 22);
    due("19 SHARE just not", x.filled(0), 4);
    due("19 SHARE just not, AMOUNT", x.filled(1), 4);
    x.share(0, 23);
    due("19 SHARE", x.filled(0), 2);
    due("19 SHARE AMOUNT", x.filled(1), 9);
    x.share(1, 0);
    due("19 a GROUP of which none is taken", x.filled(1), 9);
    x.gone(2);
    due("19 GONE aside", x.filled(0), 2);
    due("19 what 2", x.filled(2), BAD);
    due("19 what -1", x.filled(-1), BAD);
    x.supply(0, 0, 0);
    x.supply(0, 3, 0);
    x.supply(1, 1, 0);
    due("19 those that are can't be MET", x.filled(0), 0);
    due("19 none at all", x.filled(1), 0);
  }

  private static void filledEdges() {
    due("19 none ASKED", new PromiseMind().filled(0), 0);
    due("19 none ASKED, AMOUNT", new PromiseMind().filled(1), 0);
    PromiseMind x = stocked("3a@0;3a@0;2a@0;2a@0;1c@1;20c@2;6b@1;1b@11");
    due("19 the least as bits", x.filled(0), 1 + 4 + 32 + 64);
    due("19 eight ASKED", x.filled(1), 31);
    tell(x, "1a@0");
    due("19 nine ASKED", x.filled(0), LONG);
    due("19 BAD ahead of LONG", x.filled(3), BAD);
    x.promise(8);
    due("19 eight again", x.filled(0), 4 + 8 + 32 + 64);
    PromiseMind y = stocked("4c@5g1;3c@5g1;7c@5g2");
    y.share(1, 10);
    y.share(2, 17);
    due("19 one of a GROUP only", y.filled(0), 1);
    y.share(2, 18);
    due("19 and the other GROUP", y.filled(0), 5);
    y.share(1, 18);
    due("19 all", y.filled(1), 14);
    PromiseMind z = stocked("1c@5g1;1c@5g2");
    z.share(1, 0);
    due("19 not 1 of none", z.filled(0), 2);
    z.share(2, 2);
    due("19 nor of less than 1", z.filled(0), 0);
  }

  private static void range() {
    PromiseMind x = stocked("5ab@4;9c@2;4abc@11;7a@9");
    x.promise(0);
    x.promise(1);
    x.promise(2);
    due("20 least", x.range(0, 0, 0, 0), 0);
    due("20 most", x.range(0, 0, 0, 1), 5);
    due("20 not its ITEM", x.range(0, 2, 2, 1), 0);
    due("20 behind its LATEST", x.range(0, 0, 5, 1), 0);
    due("20 it must", x.range(1, 2, 2, 0), 9);
    due("20 no more than it needs", x.range(1, 2, 2, 1), 9);
    due("20 no SUPPLY", x.range(2, 0, 7, 1), 0);
    due("20 ASKED", x.range(3, 0, 0, 0), STATE);
    due("20 order 4", x.range(4, 0, 0, 0), BAD);
    due("20 item 3", x.range(0, 3, 0, 0), BAD);
    due("20 item -1", x.range(0, -1, 0, 0), BAD);
    due("20 period 12", x.range(0, 0, 12, 0), BAD);
    due("20 period -1", x.range(0, 0, -1, 0), BAD);
    due("20 what 2", x.range(0, 0, 0, 2), BAD);
    due("20 what -1", x.range(0, 0, 0, -1), BAD);
    due("20 BAD ahead of STATE", x.range(3, 0, 0, 2), BAD);
    x.supply(2, 2, 8);
    due("20 they can't be MET", x.range(0, 0, 0, 0), NOT);
    due("20 they can't be MET, a SUPPLY beside", x.range(0, 2, 2, 1), NOT);
    x.gone(0);
    due("20 GONE", x.range(0, 0, 0, 0), STATE);
  }

  private static void rangeEdges() {
    PromiseMind x = with("4ab@3;6b@2;5a@9;3bc@5");
    x.supply(0, 0, 3);
    x.supply(0, 6, 9);
    x.supply(1, 1, 6);
    x.supply(1, 3, 4);
    x.supply(2, 4, 1);
    due("20 all four", x.promiseAll(), 4);
    int[][] want = {{0, 0, 0, 2, 3}, {0, 1, 1, 0, 0}, {0, 1, 3, 1, 2}, {1, 1, 1, 6, 6}, {1, 0, 0, 0, 0}, {2, 0, 0, 0, 1},
        {2, 0, 6, 4, 5}, {3, 1, 1, 0, 0}, {3, 1, 3, 2, 3}, {3, 2, 4, 0, 1}};
    for (int[] w : want) {
      String call = "20 range(" + w[0] + ", " + w[1] + ", " + w[2] + ", ";
      due(call + "0)", x.range(w[0], w[1], w[2], 0), w[3]);
      due(call + "1)", x.range(w[0], w[1], w[2], 1), w[4]);
    }
    x.share(0, 0);
    due("20 SHARES don't matter", x.range(0, 0, 0, 1), 3);
  }

  /** 0: 9c, RANK 1; 1: 8c, RANK 5; 2: 2c, RANK 5; 3: 3a, RANK 9; 4: 1c, RANK 1: all PROMISED. */
  private static PromiseMind ranked() {
    PromiseMind x = stocked("9c@2r1;8c@3r5;2c@2r5;3a@0r9;1c@3r1");
    x.promiseAll();
    return x;
  }

  private static void late() {
    PromiseMind x = ranked();
    due("21 none", x.late(), 0);
    due("21 new", new PromiseMind().late(), 0);
    x.supply(2, 2, 19);
    due("21 one", x.late(), 1);
    due("21 the last", x.of(4, 6), 1);
    x.supply(2, 2, 18);
    due("21 still one", x.late(), 1);
    due("21 the one ahead", x.of(0, 6), 1);
    due("21 not a later one that can", x.of(4, 6), 0);
    x.supply(2, 2, 7);
    due("21 behind, as RANK 5 goes first", x.late(), 2);
    due("21 too much for the first of them", x.of(1, 6), 1);
    due("21 but not for the second", x.of(2, 6), 0);
    x.share(0, 0);
    due("21 SHARES don't matter", x.late(), 2);
    x.giveUp(1);
    due("21 ASKED isn't LATE", x.late(), 1);
    x.undo();
    due("21 undone", x.late(), 2);
    x.supply(2, 2, 0);
    due("21 all of c", x.late(), 4);
  }

  private static void kept() {
    PromiseMind x = ranked();
    int[] order = {3, 1, 2, 0, 4};
    due("22 how many", x.kept(-1), 5);
    for (int i = 0; i < 5; i++) due("22 kept(" + i + ")", x.kept(i), order[i]);
    due("22 no more", x.kept(5), NOT);
    due("22 far", x.kept(HIGH), NOT);
    due("22 i -2", x.kept(-2), BAD);
    x.supply(2, 2, 10);
    due("22 how many then", x.kept(-1), 3);
    due("22 first", x.kept(0), 3);
    due("22 third", x.kept(2), 2);
    due("22 no fourth", x.kept(3), NOT);
    x.supply(2, 2, 7);
    due("22 the second now", x.kept(1), 2);
    due("22 the third now", x.kept(2), 4);
    PromiseMind y = stocked("2a@9;2a@9r9;2a@9;2a@9r0;2a@9r9");
    y.promiseAll();
    int[] then = {1, 4, 0, 2, 3};
    for (int i = 0; i < 5; i++) due("22 RANK that isn't told, kept(" + i + ")", y.kept(i), then[i]);
    due("22 none", new PromiseMind().kept(-1), 0);
    due("22 no first", new PromiseMind().kept(0), NOT);
  }

  private static void why() {
    PromiseMind x = ranked();
    due("23 none LATE", x.why(0), STATE);
    x.supply(2, 2, 10);
    due("23 the last but one", x.why(0), 4);
    due("23 behind it", x.why(4), 4);
    due("23 KEPT", x.why(1), STATE);
    x.supply(2, 2, 7);
    due("23 just those ahead", x.why(1), 4);
    x.giveUp(4);
    due("23 ASKED", x.why(4), STATE);
    due("23 order 5", x.why(5), BAD);
    due("23 order -1", x.why(-1), BAD);
    PromiseMind y = stocked("5ab@4r2;9a@5r1;6b@3r3");
    y.promiseAll();
    y.supply(0, 0, 2);
    due("23 two ITEMS", y.why(1), 60500);
    y.supply(0, 3, 0);
    due("23 two ITEMS, the higher RANK", y.why(0), 50500);
    due("23 it doesn't count one that isn't KEPT", y.why(1), 60000);
    PromiseMind z = stocked("1a@1r9;9a@6r1;2a@11r1;2a@9r0");
    z.promiseAll();
    z.supply(0, 3, 4);
    due("23 one ahead by RANK, two KEPT behind", z.why(1), 70000);
    due("23 KEPT behind", z.why(2), STATE);
    z = stocked("2a@9r1;9a@6r1;1a@11r1");
    z.promiseAll();
    z.supply(0, 3, 4);
    due("23 one ahead by number, one KEPT behind", z.why(1), 100000);
  }

  private static void ledger() {
    PromiseMind x = stocked("6a@2;12cab@11g3r9;9c@10g1;5b@1r2;5b@1r1;1a@0;1a@0;1a@0;1a@0;1a@0;60cb@9");
    x.promise(2);
    x.supply(1, 1, 10);
    x.promise(3);
    x.promise(4);
    x.supply(1, 1, 9);
    x.gone(1);
    dueText("24 ASKED", ledgerOf(x, 0), "0:6a@2g0r0 asked");
    dueText("24 GONE", ledgerOf(x, 1), "1:12abc@11g3r9 gone");
    dueText("24 PROMISED", ledgerOf(x, 2), "2:9c@10g1r0 promised");
    dueText("24 KEPT", ledgerOf(x, 3), "3:5b@1g0r2 promised");
    dueText("24 LATE", ledgerOf(x, 4), "4:5b@1g0r1 late");
    dueText("24 number 10", ledgerOf(x, 10), "10:60bc@9g0r0 asked");
    x.move(0, 10);
    dueText("24 moved", ledgerOf(x, 0), "0:6a@10g0r0 asked");
    due("24 the last byte", x.ledger(0, 16), 'd');
    due("24 fewer", x.ledger(0, 17), NOT);
    due("24 far", x.ledger(0, HIGH), NOT);
    due("24 i -2", x.ledger(0, -2), BAD);
    due("24 order 11", x.ledger(11, 0), BAD);
    due("24 order -1", x.ledger(-1, 0), BAD);
    due("24 BAD ahead of NOT", x.ledger(11, 99), BAD);
  }

  private static void row() {
    PromiseMind x = new PromiseMind();
    due("25 row", x.row(0, 24), 1);
    due("25 empty row", x.row(3, 0), 1);
    due("25 shelf -1", x.row(-1, 3), BAD);
    due("25 shelf 4", x.row(4, 3), BAD);
    due("25 n 25", x.row(0, 25), BAD);
    due("25 n -1", x.row(0, -1), SIZE);
    due("25 n low", x.row(0, LOW), SIZE);
    due("25 BAD ahead of SIZE", x.row(4, -1), BAD);
    due("25 still there", x.put(0, 23, 5), 1);
    due("25 place of an empty ROW", x.put(3, 0, 1), PLACE);
    x.row(0, 24);
    due("25 0 at first again", x.get(0, 23), 0);
    x.put(0, 1, 8);
    x.row(0, 1);
    x.row(0, 2);
    due("25 shorter, longer", x.get(0, 1), 0);
    due("25 no CHANGE", x.count(5), 0);
  }

  private static void put() {
    PromiseMind x = new PromiseMind();
    due("26 nothing there", x.put(1, 0, 4), NOTHING);
    due("26 nothing there, no place", x.put(1, -1, 4), NOTHING);
    x.row(1, 3);
    due("26 put", x.put(1, 0, Long.MAX_VALUE), 1);
    due("26 put last", x.put(1, 2, Long.MIN_VALUE + 1), 1);
    due("26 got", x.get(1, 0), Long.MAX_VALUE);
    due("26 got last", x.get(1, 2), Long.MIN_VALUE + 1);
    due("26 place 3", x.put(1, 3, 1), PLACE);
    due("26 place -1", x.put(1, -1, 1), PLACE);
    due("26 place high", x.put(1, HIGH, 1), PLACE);
    due("26 shelf -1", x.put(-1, 0, 1), BAD);
    due("26 shelf 4", x.put(4, 0, 1), BAD);
    due("26 no CHANGE", x.count(5), 0);
  }

  private static void get() {
    PromiseMind x = new PromiseMind();
    due("27 nothing there", x.get(0, 0), Long.MIN_VALUE);
    x.row(0, 2);
    x.row(1, 24);
    x.put(1, 0, 9);
    due("27 0 at first", x.get(0, 1), 0);
    due("27 no such place", x.get(0, 2), Long.MIN_VALUE);
    due("27 place -1", x.get(1, -1), Long.MIN_VALUE);
    due("27 shelf -1", x.get(-1, 0), Long.MIN_VALUE);
    due("27 shelf 4", x.get(4, 0), Long.MIN_VALUE);
    due("27 another's place", x.get(0, 24), Long.MIN_VALUE);
    due("27 its own", x.get(1, 0), 9);
  }

  private static void from() {
    PromiseMind x = new PromiseMind();
    due("28 nothing there", x.from(0, 0, 0, 0), NOTHING);
    x.row(0, 5);
    for (int i = 0; i < 5; i++) x.put(0, i, 10 + i);
    due("28 no CHANGE yet", x.count(5), 0);
    due("28 till the ROW ends", x.from(0, 1, 1, 3), 4);
    int[] want = {0, 0, 0, 11, 12, 13, 14, 0};
    for (int p = 0; p < 8; p++) due("28 supplied(1, " + p + ")", x.supplied(1, p), want[p]);
    due("28 a CHANGE", x.count(5), 1);
    due("28 till PERIODS end", x.from(0, 0, 2, 10), 2);
    due("28 the next ITEM's are no one's", x.supplied(2, 11), 11);
    due("28 last of an ITEM", x.from(0, 0, 0, 11), 1);
    due("28 not into the next ITEM", x.supplied(1, 0), 0);
    x.put(0, 2, 100);
    due("28 till one is above 99", x.from(0, 0, 0, 0), 2);
    x.put(0, 0, -1);
    due("28 one below 0", x.from(0, 0, 0, 5), 0);
    due("28 0 is a CHANGE", x.count(5), 5);
    x.put(0, 0, 1L << 32);
    due("28 a great one", x.from(0, 0, 0, 5), 0);
    x.put(0, 0, 99);
    x.put(0, 1, 0);
    due("28 the bounds", x.from(0, 0, 0, 5), 2);
    due("28 99 came", x.supplied(0, 5), 99);
    due("28 at the end", x.from(0, 5, 0, 0), 0);
    due("28 behind it", x.from(0, HIGH, 0, 0), 0);
    due("28 CHANGES, too", x.count(5), 9);
    due("28 i -1", x.from(0, -1, 0, 0), PLACE);
    due("28 nothing ahead of PLACE", x.from(1, -1, 0, 0), NOTHING);
    due("28 shelf 4", x.from(4, 0, 0, 0), BAD);
    due("28 shelf -1", x.from(-1, 0, 0, 0), BAD);
    due("28 item 3", x.from(0, 0, 3, 0), BAD);
    due("28 period 12", x.from(0, 0, 0, 12), BAD);
    due("28 BAD ahead of NOTHING", x.from(1, 0, -1, 0), BAD);
    due("28 BAD ahead of PLACE", x.from(0, -1, 0, -1), BAD);
    due("28 refused ones are none", x.count(5), 9);
    x.undo();
    x.undo();
    due("28 undone", x.undo(), 6);
    due("28 as it was", x.supplied(0, 5), 0);
  }

  private static void lefts() {
    PromiseMind x = stocked("5ab@4;9c@2");
    x.promiseAll();
    due("29 nothing there", x.lefts(0, 0), NOTHING);
    x.row(0, 24);
    x.put(0, 0, 77);
    x.put(0, 13, 78);
    int[] want = {5, 11, 22, 31, 26, 26, 26, 26, 26, 26, 26, 26};
    due("29 all PERIODS", x.lefts(0, 1), 12);
    for (int p = 0; p < 12; p++) due("29 LEFT at " + p, x.get(0, p + 1), want[p]);
    due("29 ahead stays", x.get(0, 0), 77);
    due("29 behind stays", x.get(0, 13), 78);
    due("29 till places end", x.lefts(0, 21), 3);
    due("29 the third", x.get(0, 23), 22);
    due("29 at the end", x.lefts(0, 24), 0);
    due("29 behind it", x.lefts(0, HIGH), 0);
    due("29 i -1", x.lefts(0, -1), PLACE);
    due("29 nothing ahead of PLACE", x.lefts(1, -1), NOTHING);
    due("29 shelf 4", x.lefts(4, 0), BAD);
    due("29 shelf -1", x.lefts(-1, 0), BAD);
    due("29 no CHANGE", x.count(5), 5);
    x.supply(2, 2, 0);
    x.row(2, 3);
    due("29 three", x.lefts(2, 0), 3);
    due("29 below 0", x.get(2, 2), 2);
  }

  private static void undo() {
    PromiseMind x = new PromiseMind();
    due("30 none", x.undo(), STATE);
    for (int n = 1; n <= 14; n++) x.supply(0, 0, n);
    due("30 twelve are kept", x.count(5), 12);
    for (int n = 11; n >= 0; n--) {
      due("30 undo", x.undo(), n);
      due("30 what is UNDONE", x.supplied(0, 0), n + 2);
    }
    due("30 no more", x.undo(), STATE);
    PromiseMind y = stocked("5ab@4;9c@2");
    y.share(2, 7);
    y.promise(0);
    y.gone(1);
    y.move(0, 9);
    y.giveUp(0);
    y.undo();
    due("30 PROMISED again", y.of(0, 5), 1);
    y.undo();
    due("30 LATEST", y.of(0, 2), 4);
    y.undo();
    due("30 not GONE", y.of(1, 5), 0);
    y.undo();
    due("30 ASKED", y.of(0, 5), 0);
    y.undo();
    due("30 SHARE", y.group(2, 0), 100);
    y.promiseAll();
    y.move(1, 4);
    y.swap(0, 1);
    y.move(1, 7);
    y.swap(0, 1);
    due("30 swapped", y.of(0, 2), 7);
    y.undo();
    due("30 swapped back", y.of(0, 2), 4);
    due("30 swapped back, the other", y.of(1, 2), 7);
    y.supply(9, 9, 9);
    due("30 refused ones are no CHANGE", y.count(6), 1);
  }

  private static void undoOrders() {
    PromiseMind x = new PromiseMind();
    x.supply(0, 0, 9);
    tell(x, "4a@3;3a@5");
    x.promise(1);
    x.move(0, 8);
    due("30 ORDERS stay", x.undo(), 2);
    due("30 LATEST as it was told", x.of(0, 2), 3);
    due("30 the other stays PROMISED", x.of(1, 5), 1);
    x.undo();
    due("30 ASKED", x.of(1, 5), 0);
    x.undo();
    due("30 ORDERS that came since", x.count(0), 2);
    due("30 their LATEST", x.of(1, 2), 5);
    tell(x, "2a@7g1");
    due("30 ORDERS are no CHANGE", x.count(6), 3);
    x.redo();
    x.redo();
    due("30 the third isn't touched", x.of(2, 5), 0);
    due("30 its LATEST", x.of(2, 2), 7);
    due("30 the second is", x.of(1, 5), 1);
    x.gone(2);
    for (int i = 0; i < 12; i++) x.share(3, i);
    while (x.undo() > 0) wrong += 0;
    due("30 what was done longer ago stays", x.of(2, 5), 2);
  }

  private static void redo() {
    PromiseMind x = new PromiseMind();
    due("31 none", x.redo(), STATE);
    for (int n = 1; n <= 13; n++) x.supply(0, 0, n);
    for (int n = 0; n < 12; n++) x.undo();
    for (int n = 11; n >= 0; n--) {
      due("31 redo", x.redo(), n);
      due("31 what is DONE AGAIN", x.supplied(0, 0), 13 - n);
    }
    due("31 no more", x.redo(), STATE);
    due("31 may be UNDONE again", x.count(5), 12);
    x.undo();
    x.undo();
    due("31 refused ones don't matter", x.supply(0, 0, 100), BAD);
    due("31 two", x.count(6), 2);
    x.supply(1, 1, 0);
    due("31 another came", x.redo(), STATE);
    due("31 CHANGES", x.count(5), 11);
    PromiseMind y = stocked("5ab@4;9c@2");
    y.promiseAll();
    y.gone(0);
    y.undo();
    y.undo();
    y.redo();
    due("31 PROMISED", y.count(2), 2);
    y.redo();
    due("31 GONE", y.of(0, 5), 2);
    due("31 late is asked anew", y.late(), 0);
    y.supply(2, 2, 0);
    y.undo();
    due("31 not LATE", y.late(), 0);
    y.redo();
    due("31 LATE", y.late(), 1);
  }

  private static void image() {
    PromiseMind x = stocked("5ab@4;9c@2;2a@1");
    due("32 none PROMISED", x.image(), 0);
    x.promise(0);
    x.promise(1);
    x.undo();
    due("32 one", x.image(), 1);
    due("32 no CHANGE", x.count(5), 5);
    due("32 DONE AGAIN is still", x.count(6), 1);
    x.share(0, 3);
    x.promiseAll();
    due("32 the newest is kept", x.back(), 1);
  }

  private static void back() {
    PromiseMind x = new PromiseMind();
    due("33 there is none", x.back(), STATE);
    x = stocked("5ab@4;9c@2;2a@1");
    x.share(1, 9);
    x.promise(0);
    x.gone(2);
    x.image();
    x.row(1, 2);
    x.put(1, 0, 5);
    x.supply(0, 0, 50);
    x.share(1, 10);
    x.move(0, 11);
    x.giveUp(0);
    x.promise(1);
    tell(x, "1a@0;1a@1");
    x.gone(3);
    x.promise(4);
    x.undo();
    x.feed('7');
    due("33 back", x.back(), 1);
    due("33 SUPPLY", x.supplied(0, 0), 5);
    due("33 SHARE", x.group(1, 0), 9);
    due("33 PROMISED", x.of(0, 5), 1);
    due("33 LATEST", x.of(0, 2), 4);
    due("33 ASKED", x.of(1, 5), 0);
    due("33 GONE", x.of(2, 5), 2);
    due("33 came since", x.of(3, 5), 0);
    due("33 came since, too", x.of(4, 5), 0);
    due("33 no CHANGES", x.undo(), STATE);
    due("33 none again", x.redo(), STATE);
    due("33 ROWS stay", x.get(1, 0), 5);
    due("33 THE TAPE stays", x.count(4), 1);
    x.promise(3);
    x.supply(0, 0, 0);
    due("33 CHANGES since", x.undo(), 1);
    x.supply(2, 2, 2);
    due("33 once more", x.back(), 1);
    due("33 once more SUPPLY", x.supplied(2, 2), 20);
    due("33 the ORDERS stay", x.count(0), 5);
    x.gone(1);
    x.undo();
    due("33 undone behind it", x.of(0, 5), 1);
  }

  private static void count() {
    PromiseMind x = stocked("5ab@4;9c@2;2a@1;3a@2");
    x.promise(0);
    x.promise(1);
    x.gone(2);
    x.share(0, 5);
    x.undo();
    x.feed('1');
    x.feed('x');
    int[] want = {4, 1, 2, 1, 2, 7, 1, 40, 14};
    for (int what = 0; what < 9; what++) due("34 count(" + what + ")", x.count(what), want[what]);
    due("34 what 9", x.count(9), BAD);
    due("34 what -1", x.count(-1), BAD);
    due("34 what low", x.count(LOW), BAD);
  }

  /** 24 ORDERS, all PROMISED: the last of them counts wherever any does. */
  private static void fullHouse() {
    PromiseMind x = new PromiseMind();
    x.supply(1, 4, 99);
    x.supply(2, 9, 36);
    for (int i = 0; i < 6; i++) tell(x, "5b@4g1r7;5bc@9g2;5b@11g1;6c@10g3r9");
    due("all are PROMISED", x.promiseAll(), 24);
    due("7 one more", tell(x, "1a@0"), -100);
    due("34 PROMISED", x.count(2), 24);
    due("34 AMOUNTS", x.count(8), 126);
    due("5 AMOUNTS", x.group(3, 2), 36);
    due("15 LEFT", x.left(121212), 9);
    due("15 LEFT of c", x.left(12), 0);
    due("17 EARLIEST of the last", x.could(23, 0), 9);
    due("17 AS MUCH of the last", x.could(23, 1), 6);
    due("18 SPARE", x.spare(7, 11), 9);
    due("19 FILLED", x.filled(0), 0);
    due("20 all of it", x.range(23, 2, 9, 0), 6);
    due("20 no other", x.range(22, 1, 4, 0), 5);
    due("20 none of it", x.range(1, 2, 9, 1), 0);
    due("22 KEPT", x.kept(-1), 24);
    due("22 KEPT by RANK", x.kept(5), 23);
    due("22 KEPT last", x.kept(23), 22);
    due("22 no more", x.kept(24), NOT);
    x.image();
    x.supply(2, 9, 35);
    due("21 one", x.late(), 1);
    due("23 its STEP", x.why(23), 11);
    dueText("24 the last", ledgerOf(x, 23), "23:6c@10g3r9 late");
    x.supply(1, 4, 84);
    due("21 one more", x.late(), 2);
    due("23 its STEP, by all ahead of it", x.why(22), 1211);
    due("11 the last", x.giveUp(23), 23);
    due("16 the last", x.hinders(23, -1), 1211);
    due("33 back", x.back(), 24);
    due("33 the last", x.of(23, 5), 1);
    x.gone(23);
    due("30 undone", x.undo(), 0);
    due("30 the last", x.of(23, 5), 1);
    due("14 the last two", x.swap(22, 23), 1);
    due("13 the last", x.move(23, 9), 11);
  }

  /** Calls that ask, and calls that are refused, change nothing. */
  private static void untouched() {
    PromiseMind x = ranked();
    x.supply(2, 2, 10);
    tell(x, "3ab@2g3;4c@2g1");
    x.gone(3);
    x.undo();
    x.feed('6');
    long before = sumOf(x);
    for (int i = -2; i < 8; i++) {
      x.supplied(i, i); x.group(i, i); x.of(i, i); x.left(i * 10101); x.hinders(i, -1); x.could(i, 0); x.could(i, 1);
      x.spare(i, i); x.filled(i); x.range(i, 2, 2, 0); x.range(i, 2, 2, 1); x.kept(i); x.why(i); x.ledger(i, i); x.get(0, i);
      x.count(i); x.late();
      x.supply(3, i, i); x.supply(0, 0, 100 + i * i); x.share(4, i); x.promise(0); x.promise(-1); x.giveUp(6); x.gone(9);
      x.move(1, 0); x.move(i, 12); x.swap(0, 0); x.swap(5, 6); x.put(0, i, i); x.from(0, i, 0, 0); x.lefts(0, i); x.back();
      x.feed(5); x.row(0, -1); x.row(0, 25);
    }
    due("nothing is changed", sumOf(x), before);
    due("DONE AGAIN", x.redo(), 0);
  }

  /** Many answers as one number. */
  private static long sumOf(PromiseMind x) {
    long sum = 0;
    for (int what = 0; what < 9; what++) sum = sum * 31 + x.count(what);
    for (int i = 0; i < 36; i++) sum = sum * 31 + x.supplied(i / 12, i % 12);
    for (int g = 0; g < 4; g++) sum = sum * 31 + x.group(g, 0);
    for (int o = 0; o < x.count(0); o++) for (int what = 0; what < 7; what++) sum = sum * 31 + x.of(o, what);
    for (int shelf = 0; shelf < 4; shelf++) sum = sum * 31 + x.get(shelf, 0);
    return sum;
  }
}
