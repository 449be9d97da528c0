import java.util.ArrayList;
import java.util.Arrays;
import java.util.List;
import java.util.Set;

/**
 * Each sentence of the document that names a boundary case, as a script of calls on a new object: just inside the
 * boundary, just outside it. Behind each call that is refused or only asks, a twin that did not make it is asked for
 * all that can be seen, CHANGES and image too, and must answer alike.
 */
public final class EdgesTest {
  private static final List<String> NAMES = List.of("BAD", "NOT", "FULL", "STATE", "LONG", "NOTHING", "PLACE", "SIZE",
      "NOSTEP", "MIN", "MAX", "LOW", "HIGH");
  private static final long[] NUMBERS = {-1, -2, -3, -5, -7, -11, -13, -14, -10000, Long.MIN_VALUE, Long.MAX_VALUE,
      Integer.MIN_VALUE, Integer.MAX_VALUE};
  private static final Set<String> ASKING = Set.of("supplied", "group", "of", "left", "hinders", "could", "spare", "filled",
      "range", "late", "kept", "why", "ledger", "get", "count", "keeps", "shelf", "print");
  private static final int MOST_CALLS = 512;

  private static int wrong = 0;
  private static int answers = 0;
  private static int sentences = 0;
  private static int twins = 0;

  public static void main(String[] args) {
    suppliesEdges();
    ordersEdges();
    metEdges();
    itemsEdges();
    sharesEdges();
    stepsEdges();
    hindersEdges();
    lateEdges();
    couldEdges();
    filledEdges();
    rangeEdges();
    spareEdges();
    tapeEdges();
    faultEdges();
    twentyFifthEdges();
    ledgerEdges();
    shelvesEdges();
    fromEdges();
    leftsEdges();
    promiseEdges();
    moveEdges();
    swapEdges();
    changesEdges();
    undoEdges();
    imageEdges();
    countEdges();
    refusedEdges();
    argumentEdges();
    System.out.println(wrong == 0 ? sentences + " sentences, " + answers + " answers, " + twins + " twins: all as due"
        : wrong + " answers are not as due");
    if (wrong != 0) System.exit(1);
  }

  // ---- scripts

  /** An object, and how many calls it has answered. */
  private static final class Used {
    final PromiseMind mind = new PromiseMind();
    int calls;
  }

  private static void fail(String what) {
    wrong++;
    System.out.println(what);
  }

  /** Lines "call arguments = answer"; those without an answer just are made. */
  private static void sentence(String title, String... lines) {
    sentences++;
    Used x = new Used();
    for (int i = 0; i < lines.length; i++) {
      int mark = lines[i].indexOf(" = ");
      String call = mark < 0 ? lines[i] : lines[i].substring(0, mark);
      String want = mark < 0 ? null : lines[i].substring(mark + 3);
      String got = run(x, call);
      if (want == null) continue;
      answers++;
      if (!got.equals(plain(want))) fail(title + "\n    " + i + ": " + call + " answered " + got + ", due is " + want);
      if (ASKING.contains(nameOf(call)) || isRefusal(call, want)) compareTwins(title, lines, i, call);
    }
    if (x.calls > MOST_CALLS) fail(title + ": more than " + MOST_CALLS + " calls");
  }

  private static String nameOf(String call) {
    int end = call.indexOf(' ');
    return end < 0 ? call : call.substring(0, end);
  }

  private static boolean isRefusal(String call, String want) {
    return NAMES.contains(want) || (nameOf(call).equals("text") && want.startsWith("-"));
  }

  /** Named numbers as numbers. */
  private static String plain(String want) {
    int at = NAMES.indexOf(want);
    return at < 0 ? want : Long.toString(NUMBERS[at]);
  }

  /** One object makes the call, the other doesn't; a TEXT that is refused leaves THE TAPE empty, as it was. */
  private static void compareTwins(String title, String[] lines, int at, String call) {
    twins++;
    Used with = new Used();
    Used without = new Used();
    for (int i = 0; i < at; i++) {
      String line = lines[i].contains(" = ") ? lines[i].substring(0, lines[i].indexOf(" = ")) : lines[i];
      run(with, line);
      run(without, line);
    }
    run(with, call);
    without.calls = with.calls;
    String changed = sight(with);
    String due = sight(without);
    if (!changed.equals(due)) fail(title + "\n    " + at + ": " + call + " changed something:\n" + due + "\n" + changed);
  }

  /** All that can be seen of an object, as far as its calls go; nothing of it is used behind this. */
  private static String sight(Used x) {
    StringBuilder s = new StringBuilder();
    see(s, x, "count", 9);
    for (int item = 0; item < 3; item++) see(s, x, "supplied " + item, 12);
    for (int g = 0; g < 4; g++) see(s, x, "group " + g, 3);
    for (int shelf = 0; shelf < 4; shelf++) {
      for (int i : new int[] {0, 1, 2, 3, 12, 23}) see(s, x, "get " + shelf + " " + i);
    }
    see(s, x, "late");
    seeOrders(s, x, "2", "5", "6");
    for (int i = 0; i < 12; i++) if (!see(s, x, "undo").equals(" -5")) seeChange(s, x);
    for (int i = 0; i < 12; i++) if (!see(s, x, "redo").equals(" -5")) seeChange(s, x);
    see(s, x, "back");
    seeChange(s, x);
    seeOrders(s, x, "2", "5");
    see(s, x, "orders");
    seeOrders(s, x, "0", "1", "3", "4");
    return s.toString();
  }

  private static void seeChange(StringBuilder s, Used x) {
    for (String call : new String[] {"count 1", "count 2", "count 7", "left 40404", "left 60606"}) see(s, x, call);
  }

  private static void seeOrders(StringBuilder s, Used x, String... whats) {
    int n = x.calls < MOST_CALLS ? x.mind.count(0) : 0;
    x.calls++;
    for (int o = 0; o < n; o++) for (String what : whats) see(s, x, "of " + o + " " + what);
  }

  private static void see(StringBuilder s, Used x, String call, int whats) {
    for (int what = 0; what < whats; what++) see(s, x, call + " " + what);
  }

  private static String see(StringBuilder s, Used x, String call) {
    String seen = x.calls < MOST_CALLS ? " " + run(x, call) : "";
    s.append(seen);
    return seen;
  }

  private static String run(Used x, String call) {
    String name = nameOf(call);
    String rest = call.substring(Math.min(call.length(), name.length() + 1));
    switch (name) {
      case "text": return text(x, rest);
      case "tape": return tape(x, rest);
      case "print": return print(x, Integer.parseInt(rest));
      case "shelf": return shelf(x, Integer.parseInt(rest));
      case "keeps": return keeps(x);
      default:
        String[] words = rest.isEmpty() ? new String[0] : rest.split(" ");
        long[] a = new long[4];
        for (int i = 0; i < words.length; i++) a[i] = Long.parseLong(plain(words[i]));
        x.calls++;
        return Long.toString(call(x.mind, name, a));
    }
  }

  private static String text(Used x, String text) {
    tape(x, text);
    x.calls++;
    return Integer.toString(x.mind.orders());
  }

  private static String tape(Used x, String text) {
    int size = 0;
    for (int i = 0; i < text.length(); i++) size = x.mind.feed(text.charAt(i));
    x.calls += text.length();
    return Integer.toString(size);
  }

  /** A LEDGER whole. */
  private static String print(Used x, int order) {
    StringBuilder s = new StringBuilder();
    int n = x.mind.ledger(order, -1);
    for (int i = 0; i < n; i++) s.append((char) x.mind.ledger(order, i));
    x.calls += n + 1;
    return s.toString();
  }

  /** A ROW whole. */
  private static String shelf(Used x, int shelf) {
    StringBuilder s = new StringBuilder();
    for (int i = 0; i < 24; i++) {
      x.calls++;
      long v = x.mind.get(shelf, i);
      if (v == Long.MIN_VALUE) break;
      s.append(i == 0 ? "" : " ").append(v);
    }
    return s.toString();
  }

  /** KEPT ones, as they are KEPT. */
  private static String keeps(Used x) {
    StringBuilder s = new StringBuilder();
    int n = x.mind.kept(-1);
    for (int i = 0; i < n; i++) s.append(i == 0 ? "" : " ").append(x.mind.kept(i));
    x.calls += n + 1;
    return s.toString();
  }

  private static long call(PromiseMind x, String name, long[] a) {
    int b = (int) a[0], c = (int) a[1], d = (int) a[2], e = (int) a[3];
    switch (name) {
      case "supply": return x.supply(b, c, d);
      case "supplied": return x.supplied(b, c);
      case "share": return x.share(b, c);
      case "group": return x.group(b, c);
      case "feed": return x.feed(b);
      case "orders": return x.orders();
      case "of": return x.of(b, c);
      case "promise": return x.promise(b);
      case "promiseAll": return x.promiseAll();
      case "giveUp": return x.giveUp(b);
      case "gone": return x.gone(b);
      case "move": return x.move(b, c);
      case "swap": return x.swap(b, c);
      case "left": return x.left(b);
      case "hinders": return x.hinders(b, c);
      case "could": return x.could(b, c);
      case "spare": return x.spare(b, c);
      case "filled": return x.filled(b);
      case "range": return x.range(b, c, d, e);
      case "late": return x.late();
      case "kept": return x.kept(b);
      case "why": return x.why(b);
      case "ledger": return x.ledger(b, c);
      case "row": return x.row(b, c);
      case "put": return x.put(b, c, a[2]);
      case "get": return x.get(b, c);
      case "from": return x.from(b, c, d, e);
      case "lefts": return x.lefts(b, c);
      case "undo": return x.undo();
      case "redo": return x.redo();
      case "image": return x.image();
      case "back": return x.back();
      case "count": return x.count(b);
      default: throw new IllegalStateException("no call " + name);
    }
  }

  private static String[] join(String[]... parts) {
    List<String> all = new ArrayList<>();
    for (String[] part : parts) all.addAll(Arrays.asList(part));
    return all.toArray(new String[0]);
  }

  private static String[] lines(String... lines) {
    return lines;
  }

  private static String[] times(int n, String line) {
    String[] all = new String[n];
    Arrays.fill(all, line);
    return all;
  }

  /** A line for each number of a row, "#" standing for it. */
  private static String[] each(int first, int last, String line) {
    int step = first <= last ? 1 : -1;
    String[] all = new String[Math.abs(last - first) + 1];
    for (int i = 0; i < all.length; i++) all[i] = line.replace("#", Integer.toString(first + i * step));
    return all;
  }

  // ---- supplies, shares

  private static void suppliesEdges() {
    sentence("SUPPLY of an ITEM in a PERIOD: 0 .. 99 (0 at first)",
        "supplied 0 0 = 0", "supplied 2 11 = 0", "supply 0 0 99 = 0", "supply 0 0 100 = BAD", "supplied 0 0 = 99",
        "supply 0 0 98 = 99", "supply 0 0 0 = 98", "supply 0 0 -1 = BAD", "supplied 0 0 = 0", "count 5 = 3",
        "supply 0 0 HIGH = BAD", "supply 0 0 LOW = BAD", "supply 0 0 1 = 0");
    sentence("ITEMS 0, 1, 2; PERIODS 0 .. 11: the corners, and what is beside them",
        "supply 0 0 1 = 0", "supply 0 11 2 = 0", "supply 1 0 3 = 0", "supply 1 11 4 = 0", "supply 2 0 5 = 0",
        "supply 2 11 6 = 0", "supplied 0 0 = 1", "supplied 0 11 = 2", "supplied 1 0 = 3", "supplied 1 11 = 4",
        "supplied 2 0 = 5", "supplied 2 11 = 6", "supplied 0 1 = 0", "supplied 2 10 = 0", "supplied 0 12 = BAD",
        "supplied 1 -1 = BAD", "supplied 2 12 = BAD", "supplied 0 -1 = BAD", "supplied -1 11 = BAD", "supplied 3 0 = BAD",
        "supply 0 12 7 = BAD", "supply 1 -1 7 = BAD", "supply -1 11 7 = BAD", "supply 3 0 7 = BAD", "supply 2 12 7 = BAD",
        "count 7 = 21");
    sentence("all SUPPLIES full", join(each(0, 11, "supply 0 # 99 = 0"), each(0, 11, "supply 1 # 99 = 0"),
        each(0, 11, "supply 2 # 99 = 0"), lines("count 7 = 3564", "left 121212 = 3564", "left 120000 = 1188",
        "left 10101 = 297", "spare 7 11 = 3564", "spare 1 0 = 99", "group 3 1 = 3564", "share 3 1 = 100",
        "group 3 1 = 35", "share 3 99 = 1", "group 3 1 = 3528", "count 5 = 12")));
    sentence("A new object: no SUPPLIES, no ORDERS", "count 0 = 0", "count 1 = 0", "count 2 = 0", "count 3 = 0",
        "count 4 = 0",
        "count 5 = 0", "count 6 = 0", "count 7 = 0", "count 8 = 0", "late = 0", "kept -1 = 0", "kept 0 = NOT", "left 0 = 0",
        "left 121212 = 0", "spare 7 11 = 0", "filled 0 = 0", "filled 1 = 0", "undo = STATE", "redo = STATE", "back = STATE",
        "promiseAll = 0", "count 5 = 1", "orders = -100", "image = 0", "back = 0");
    sentence("a new object has no ORDER 0", "of 0 0 = BAD", "promise 0 = BAD", "giveUp 0 = BAD", "gone 0 = BAD",
        "move 0 0 = BAD", "swap 0 1 = BAD", "hinders 0 0 = BAD", "could 0 0 = BAD", "range 0 0 0 0 = BAD", "why 0 = BAD",
        "ledger 0 -1 = BAD", "count 5 = 0");
  }

  // ---- orders

  private static void ordersEdges() {
    sentence("AMOUNT (1 .. 60)", "text 0a@1 = -100", "text 1a@1 = 1", "text 60a@1 = 2", "text 61a@1 = -100",
        "text 59a@1 = 3", "of 0 0 = 1", "of 1 0 = 60", "of 2 0 = 59", "count 0 = 3");
    sentence("ITEMS (any of these; one at least)", "text 1@1 = -101", "text 1a@1;1b@1;1c@1;1ba@1;1ca@1;1cb@1;1bac@1 = 7",
        "of 0 1 = 1", "of 1 1 = 2", "of 2 1 = 4", "of 3 1 = 3", "of 4 1 = 5", "of 5 1 = 6", "of 6 1 = 7");
    sentence("LATEST (a PERIOD)", "text 1a@0 = 1", "text 1a@11 = 2", "text 1a@12 = -103", "text 1a@10 = 3", "of 0 2 = 0",
        "of 1 2 = 11", "of 2 2 = 10");
    sentence("GROUP (0 .. 3; 0, if it isn't told)", "text 1a@1 = 1", "text 1a@1g0 = 2", "text 1a@1g3 = 3",
        "text 1a@1g4 = -105",
        "text 1a@1r7 = 4", "of 0 3 = 0", "of 1 3 = 0", "of 2 3 = 3", "of 3 3 = 0", "of 3 4 = 7");
    sentence("RANK (0 .. 9; 0, if it isn't told)", "text 1a@1 = 1", "text 1a@1r0 = 2", "text 1a@1r9 = 3",
        "text 1a@1r10 = -106",
        "text 1a@1g2 = 4", "of 0 4 = 0", "of 1 4 = 0", "of 2 4 = 9", "of 3 4 = 0", "of 3 3 = 2");
    sentence("An ORDER is ASKED (0) as it comes, PROMISED (1), or GONE (2)", "supply 0 0 9", "text 1a@1;1a@1;1a@1 = 3",
        "of 0 5 = 0", "promise 1 = 1", "gone 2 = 1", "of 0 5 = 0", "of 1 5 = 1", "of 2 5 = 2", "count 1 = 1", "count 2 = 1",
        "count 3 = 1", "giveUp 1 = 0", "of 1 5 = 0", "gone 1 = 0", "of 1 5 = 2");
    sentence("numbered from 0 as they come", "text 1a@1;2a@1 = 2", "text 3a@1 = 3", "of 0 0 = 1", "of 1 0 = 2", "of 2 0 = 3",
        "of 3 0 = BAD", "of -1 0 = BAD", "of HIGH 0 = BAD", "of LOW 0 = BAD", "gone 0 = 0", "text 4a@1 = 4", "of 3 0 = 4",
        "of 0 0 = 1", "of 0 5 = 2");
    sentence("whether it is LATE (6; 1, 0)", "supply 0 0 3", "text 3a@0;3a@0 = 2", "promise 0", "of 0 6 = 0", "of 1 6 = 0",
        "supply 0 0 2", "of 0 6 = 1", "of 1 6 = 0", "of 0 7 = BAD", "of 0 -1 = BAD", "supply 0 0 3", "of 0 6 = 0");
  }

  private static void metEdges() {
    sentence("each of them has its AMOUNT", "supply 2 11 60", "supply 0 2 5", "text 6a@2;5a@2;1a@2 = 3",
        "promise 0 = NOT", "promise 1 = 1",
        "promise 2 = NOT", "supply 0 2 6", "promise 2 = 2", "left 30000 = 0", "late = 0", "supply 0 2 5", "late = 1");
    sentence("out of SUPPLIES of PERIODS up to its LATEST", "supply 2 11 60", "supply 0 3 5", "text 5a@2;5a@3;1a@11 = 3",
        "promise 0 = NOT",
        "promise 1 = 1", "giveUp 1 = 0", "move 1 4 = 3", "promise 1 = 1", "promise 2 = NOT", "supply 0 11 1",
        "promise 2 = 2", "move 2 10 = NOT");
    sentence("up to LATEST 0, up to LATEST 11", "supply 2 11 60", "supply 1 0 1", "supply 1 11 1",
        "text 1b@0;1b@10;1b@11 = 3", "promise 0 = 1",
        "promise 1 = NOT", "promise 2 = 2", "promise 1 = NOT");
    sentence("out of SUPPLIES of its ITEMS", "supply 1 0 5", "text 5a@0;5c@0;5ac@0;5b@0 = 4", "promise 0 = NOT",
        "promise 1 = NOT", "promise 2 = NOT", "promise 3 = 1");
    sentence("any of these will do, mixed as one likes", "supply 0 0 2", "supply 1 0 3", "supply 2 0 4",
        "text 6ab@0;5ab@0;8bc@0;7bc@0;6ca@0;9abc@0;10abc@0 = 7", "promise 0 = NOT", "promise 2 = NOT", "promise 6 = NOT",
        "promise 1 = 1", "promise 5 = NOT", "giveUp 1 = 0", "promise 3 = 1", "giveUp 3 = 0", "promise 4 = 1", "giveUp 4 = 0",
        "promise 5 = 1");
    sentence("SUPPLIES can be parted so: three that share three ITEMS", "supply 2 11 60", "supply 0 0 6", "supply 1 0 5",
        "text 4ab@0;4bc@0;4ca@0 = 3", "promise 0 = 1", "promise 1 = 2", "promise 2 = NOT", "supply 1 0 6", "promise 2 = 3",
        "late = 0", "supply 2 0 1", "supply 1 0 4", "late = 1", "supply 2 0 2", "late = 0");
    sentence("SUPPLIES can be parted so: an early one leaves what a late one can't have", "supply 2 11 60",
        "supply 0 1 3", "supply 0 5 3",
        "text 3a@9;3a@1 = 2", "promise 0 = 1", "promise 1 = 2", "move 0 4 = NOT", "move 0 5 = 9", "move 1 0 = NOT");
  }

  /** The same in each ITEM, and in PERIODS far behind a LATEST. */
  private static void itemsEdges() {
    for (int item = 0; item < 3; item++) {
      String letter = "abc".substring(item, item + 1);
      String[] stock = lines("supply " + (item + 1) % 3 + " 0 60", "supply " + item + " 2 3", "supply " + item + " 7 4",
          "text 3@@2;1@@6;4@@7;1@@11 = 4".replace("@@", letter + "@"));
      String one = item == 0 ? "10000" : item == 1 ? "100" : "1";
      int unit = Integer.parseInt(one);
      sentence("MET in ITEM " + letter, join(stock, lines("promise 0 = 1", "promise 1 = NOT", "promise 2 = 2",
        "promise 3 = NOT",
          "could 3 0 = NOT", "hinders 1 -1 = " + 7 * unit, "hinders 3 -1 = " + 12 * unit, "spare " + (1 << item) + " 11 = 0",
          "left " + 2 * unit + " = 0", "left " + 3 * unit + " = 0", "left " + 7 * unit + " = 0", "left " + 8 * unit + " = 0",
          "giveUp 0 = 1", "left " + 2 * unit + " = 0", "left " + 3 * unit + " = 3", "left " + 7 * unit + " = 3",
          "left " + 8 * unit + " = 3", "promise 1 = 2", "promise 3 = 3", "could 0 1 = 1", "could 0 0 = NOT",
          "range 1 " + item + " 2 0 = 1", "range 3 " + item + " 2 1 = 1", "range 3 " + item + " 7 1 = 1",
          "range 2 " + item + " 2 1 = 2", "range 2 " + item + " 7 0 = 2", "range 2 " + item + " 7 1 = 4")));
      sentence("PROMISED all, FILLED, KEPT in ITEM " + letter, join(stock, lines("filled 0 = 5", "filled 1 = 7",
        "promiseAll = 2",
          "of 0 5 = 1", "of 2 5 = 1", "supply " + item + " 11 1 = 0", "filled 0 = 2", "filled 1 = 1", "promiseAll = 1",
          "supply " + item + " 11 0", "keeps = 0 2", "why 3 = " + 12 * unit, "supply " + item + " 2 2", "keeps = 2 3",
          "why 0 = " + 3 * unit, "supply " + item + " 7 3", "keeps = 2 3", "supply " + item + " 2 1", "keeps = 2",
          "why 3 = " + 12 * unit, "supply " + item + " 7 2", "keeps = 3", "why 2 = " + 8 * unit)));
    }
    String[] full = lines("supply 0 0 5", "supply 1 0 5", "supply 2 0 5");
    for (String text : new String[] {"5a@0r9;5b@0;5c@0", "5b@0r9;5c@0;5a@0", "5c@0r9;5a@0;5b@0", "5c@11r9;5b@0;5a@7"}) {
      sentence("an ORDER takes nothing of ITEMS that aren't its: " + text, join(full, lines("text " + text + " = 3",
        "filled 0 = 7",
          "promiseAll = 3", "keeps = 0 1 2", "late = 0", "left 10101 = " + (text.contains("@11") ? 10 : 0),
          "left 121212 = 0", "spare 7 11 = 0", "giveUp 0 = 2", "hinders 0 -1 = NOT", "could 0 1 = 5", "promise 0 = 3")));
    }
    sentence("LEFT, MET by two ITEMS: both numbers count", "supply 0 3 2", "supply 1 5 2", "supply 2 9 60",
        "text 4ab@5;4ab@4 = 2",
        "promise 1 = NOT", "hinders 1 -1 = 50500", "promise 0 = 1", "left 60600 = 0", "left 120500 = 2", "left 51200 = 4",
        "left 120512 = 62", "range 0 0 3 0 = 2", "range 0 1 5 1 = 2");
    sentence("LEFT, MET by b and c", "supply 1 3 2", "supply 2 5 2", "supply 0 9 60", "text 4cb@5;4cb@4 = 2",
        "promise 1 = NOT",
        "hinders 1 -1 = 505", "promise 0 = 1", "left 606 = 0", "left 1205 = 2", "left 512 = 4", "left 120606 = 60",
        "range 0 1 3 0 = 2", "range 0 2 5 1 = 2");
    sentence("LEFT, MET by a and c", "supply 0 3 2", "supply 2 5 2", "supply 1 9 60", "text 4ca@5;4ca@4 = 2",
        "promise 1 = NOT",
        "hinders 1 -1 = 50005", "promise 0 = 1", "left 60006 = 0", "left 120005 = 2", "left 50012 = 4", "left 61206 = 60",
        "range 0 0 3 0 = 2", "range 0 2 5 1 = 2");
  }

  private static void sharesEdges() {
    sentence("SHARE (0 .. 100 of 100; 100 at first)", "group 0 0 = 100", "group 3 0 = 100", "share 0 0 = 100",
        "share 0 -1 = BAD", "group 0 0 = 0", "share 0 100 = 0", "share 0 101 = BAD", "group 0 0 = 100", "share 3 1 = 100",
        "share 3 99 = 1", "share 3 HIGH = BAD", "share 3 LOW = BAD", "group 3 0 = 99", "count 5 = 4");
    sentence("GROUP (0 .. 3)", "share 0 1 = 100", "share 1 2 = 100", "share 2 3 = 100", "share 3 4 = 100", "share 4 5 = BAD",
        "share -1 5 = BAD", "share HIGH 5 = BAD", "share LOW 5 = BAD", "group 0 0 = 1", "group 1 0 = 2", "group 2 0 = 3",
        "group 3 0 = 4", "group 4 0 = BAD", "group -1 0 = BAD");
    sentence("Of a GROUP: SHARE (what 0), how much (1), AMOUNTS (2)", "supply 0 0 10", "text 2a@0g1;3a@0g1;4a@0g2 = 3",
        "share 1 50", "group 1 0 = 50", "group 1 1 = 5", "group 1 2 = 0", "promise 0", "group 1 2 = 2", "promise 1",
        "group 1 2 = 5", "promise 2", "group 1 2 = 5", "group 2 2 = 4", "group 0 2 = 0", "giveUp 0", "group 1 2 = 3",
        "gone 1", "group 1 2 = 0", "group 1 3 = BAD", "group 1 -1 = BAD");
    sentence("LATE ones are PROMISED still: AMOUNTS of a GROUP", "supply 0 0 5", "text 5a@0g1 = 1", "promise 0",
        "supply 0 0 0", "late = 1", "group 1 2 = 5", "group 1 1 = 0", "count 8 = 5", "count 2 = 1");
    sentence("A SHARE is cut: all SUPPLIES together times SHARE by 100", "share 0 33", "group 0 1 = 0", "supply 0 0 3",
        "group 0 1 = 0", "supply 2 11 7", "group 0 1 = 3", "share 0 39", "group 0 1 = 3", "share 0 40", "group 0 1 = 4",
        "share 0 0", "group 0 1 = 0", "share 0 100", "group 0 1 = 10", "share 0 9", "group 0 1 = 0", "share 0 10",
        "group 0 1 = 1", "share 0 99", "group 0 1 = 9");
    sentence("the AMOUNTS of its ORDERS together are no more", "supply 0 0 10", "share 1 49",
        "text 5a@0g1;4a@0g1;1a@0g1 = 3",
        "promise 0 = NOT", "promise 1 = 1", "promise 2 = NOT", "share 1 50", "promise 2 = 2", "giveUp 1", "giveUp 2",
        "promise 0 = 1", "promise 2 = NOT");
    sentence("its GROUP's SHARE suffices (other GROUPS don't matter)", "supply 0 0 10", "text 4a@0g1;2a@0g2;1a@0g1 = 3",
        "promise 0 = 1", "share 1 0", "promise 1 = 2", "promise 2 = NOT", "share 2 0", "giveUp 1 = 1", "promise 1 = NOT");
    sentence("SHARES may be told so; SHARES don't matter for KEPT, LATE", "supply 0 0 5", "text 5a@0g1 = 1", "promise 0",
        "share 1 0 = 100", "late = 0", "of 0 5 = 1", "of 0 6 = 0", "keeps = 0", "why 0 = STATE");
  }

  // ---- what can be

  private static void stepsEdges() {
    sentence("(-1: none), up to its number", join(lines("supply 0 0 1", "supply 0 11 2", "supply 1 0 10", "supply 1 11 20",
        "supply 2 0 30", "supply 2 11 40", "left 0 = 0", "left 10000 = 1", "left 110000 = 1", "left 120000 = 3",
        "left 100 = 10", "left 1100 = 10", "left 1200 = 30", "left 1 = 30", "left 11 = 30", "left 12 = 70",
        "left 10101 = 41",
        "left 121212 = 103", "left 120001 = 33")));
    sentence("left(): numbers above 12 or below 0: -10000", "supply 0 0 7", "left 13 = NOSTEP", "left 12 = 0",
        "left 1300 = NOSTEP", "left 1200 = 0", "left 130000 = NOSTEP", "left 120000 = 7", "left -1 = NOSTEP",
        "left 121213 = NOSTEP", "left 121312 = NOSTEP", "left 131212 = NOSTEP", "left 121212 = 7", "left 99 = NOSTEP",
        "left 9900 = NOSTEP", "left 990000 = NOSTEP", "left 1000000 = NOSTEP", "left 1010101 = NOSTEP", "left 10101 = 7",
        "left -10101 = NOSTEP", "left -10000 = NOSTEP", "left HIGH = NOSTEP", "left LOW = NOSTEP");
    sentence("PROMISED ORDERS whose LATEST is no more than the number of each of their ITEMS", "supply 0 0 9",
        "supply 1 0 9",
        "text 4ab@4;2c@0;3abc@11 = 3", "supply 2 0 9", "promiseAll = 3", "left 40500 = 18", "left 50400 = 18",
        "left 50500 = 14", "left 120400 = 18", "left 121200 = 14", "left 50512 = 21", "left 1 = 7", "left 0 = 0",
        "left 121211 = 21", "left 111212 = 21", "left 121112 = 21", "left 121212 = 18");
    sentence("less the AMOUNTS of PROMISED ones, ASKED and GONE ones not, LATE ones too", "supply 0 0 9",
        "text 4a@0;2a@0;1a@0 = 3", "left 10000 = 9", "promise 0", "left 10000 = 5", "gone 2", "left 10000 = 5", "promise 1",
        "left 10000 = 3", "supply 0 0 3", "late = 1", "left 10000 = -3", "giveUp 0", "left 10000 = 1");
    sentence("Just if nothing is LEFT below 0 at any STEP, all that are PROMISED can be MET", "supply 0 5 5",
        "text 5a@5;1b@0 = 2", "promise 0", "left 60000 = 0", "late = 0", "move 0 5 = 5", "supply 0 5 4", "left 60000 = -1",
        "late = 1", "move 0 5 = NOT", "supply 1 0 1", "promise 1 = NOT", "supply 0 0 1", "left 60000 = 0", "late = 0",
        "promise 1 = 2");
  }

  private static void hindersEdges() {
    sentence("HINDERED by: if that is below 0", "supply 0 2 5", "text 5a@2;6a@2;60a@11 = 3", "hinders 0 -1 = NOT",
        "hinders 0 0 = NOT", "hinders 1 -1 = 30000", "hinders 1 0 = 99999", "hinders 2 -1 = 120000", "hinders 2 0 = 99945",
        "supply 0 2 4", "hinders 0 -1 = 30000", "hinders 0 0 = 99999");
    sentence("the STEP at which least would be LEFT", "supply 0 0 4", "text 6a@0;5a@5;4a@9 = 3", "hinders 0 -1 = 10000",
        "hinders 0 0 = 99998", "supply 0 0 5", "promise 1", "hinders 0 -1 = 60000", "hinders 0 0 = 99994",
        "hinders 2 -1 = 100000", "hinders 2 0 = 99996", "supply 0 8 4", "hinders 2 -1 = NOT", "supply 0 3 9",
        "hinders 0 -1 = 10000", "hinders 0 0 = 99999");
    sentence("of several the one of the least q0", "text 3a@5 = 1", "hinders 0 -1 = 60000", "move 0 0",
        "hinders 0 -1 = 10000",
        "move 0 11", "hinders 0 -1 = 120000");
    sentence("then q1", "text 3b@5 = 1", "hinders 0 -1 = 600", "move 0 0", "hinders 0 -1 = 100", "move 0 11",
        "hinders 0 -1 = 1200");
    sentence("then q2", "text 3c@5 = 1", "hinders 0 -1 = 6", "move 0 0", "hinders 0 -1 = 1", "move 0 11",
        "hinders 0 -1 = 12");
    sentence("the least q0 goes ahead of a lesser q1", "supply 0 0 4", "supply 1 0 4", "text 4b@9;4a@5 = 2", "promise 0",
        "supply 1 0 0", "hinders 1 -1 = 1000", "hinders 1 0 = 99996");
    sentence("the least q1 goes ahead of a lesser q2", "supply 1 0 4", "supply 2 0 4", "text 4c@9;4b@5 = 2", "promise 0",
        "supply 2 0 0", "hinders 1 -1 = 10", "hinders 1 0 = 99996");
    sentence("the ORDER counted as PROMISED: those that are hinder, too", "supply 2 2 5", "text 5c@2;1a@0;4b@3 = 3",
        "supply 0 0 1", "promise 0", "hinders 1 0 = NOT", "supply 2 2 0", "hinders 1 0 = 99995", "hinders 1 -1 = 3",
        "hinders 2 -1 = 403", "hinders 2 0 = 99991");
    sentence("part -1, part 0", "text 1a@0 = 1", "hinders 0 -2 = BAD", "hinders 0 -1 = 10000", "hinders 0 0 = 99999",
        "hinders 0 1 = BAD", "hinders 0 HIGH = BAD", "hinders 0 LOW = BAD");
    sentence("STATE: it isn't ASKED", "supply 0 0 2", "text 2a@0;2a@0;2a@0 = 3", "promise 0", "gone 1",
        "hinders 0 0 = STATE",
        "hinders 1 0 = STATE", "hinders 2 0 = 99998", "hinders 3 0 = BAD", "hinders -1 0 = BAD");
    sentence("hinders() goes by MET alone (its SHARE aside)", "supply 0 0 5", "share 0 0", "text 5a@0 = 1",
        "promise 0 = NOT",
        "hinders 0 -1 = NOT", "hinders 0 0 = NOT", "supply 0 0 4", "hinders 0 -1 = 10000");
  }

  private static void couldEdges() {
    sentence("EARLIEST: the least PERIOD with which as its LATEST it could be PROMISED", "text 5a@9;5b@0;5c@11 = 3",
        "supply 0 0 4", "supply 0 7 1", "could 0 0 = 7", "supply 0 7 0", "could 0 0 = NOT", "supply 0 0 5", "could 0 0 = 0",
        "supply 1 11 5", "could 1 0 = 11", "supply 1 11 4", "could 1 0 = NOT", "supply 2 11 5", "could 2 0 = 11",
        "count 2 = 0", "of 1 2 = 0");
    sentence("EARLIEST doesn't break those that are PROMISED", "supply 0 1 5", "supply 0 4 5", "text 5a@1;5a@9 = 2",
        "could 1 0 = 1", "promise 0", "could 1 0 = 4", "supply 0 4 4", "could 1 0 = NOT", "supply 0 4 5", "move 0 4",
        "could 1 0 = 1");
    sentence("one that is PROMISED is thought not to be", "supply 0 1 5", "text 5a@9;5a@9 = 2", "promise 0", "could 0 0 = 1",
        "could 0 1 = 5", "could 1 0 = NOT", "could 1 1 = NOT", "count 2 = 1");
    sentence("AS MUCH: the greatest AMOUNT (60 at most)", "supply 2 11 60", "supply 0 0 59", "text 1a@0;60a@0 = 2",
        "could 0 1 = 59",
        "could 1 0 = NOT", "supply 0 0 60", "could 0 1 = 60", "could 1 0 = 0", "supply 0 0 61", "could 0 1 = 60",
        "supply 0 0 99", "could 0 1 = 60", "supply 0 0 1", "could 0 1 = 1", "supply 0 0 0", "could 0 1 = NOT");
    sentence("AS MUCH goes by its LATEST as it is", "supply 0 0 3", "supply 0 5 4", "text 1a@4 = 1", "could 0 1 = 3",
        "move 0 5", "could 0 1 = 7", "move 0 0", "could 0 1 = 3");
    sentence("AS MUCH (SHARE, too)", "supply 0 0 10", "text 3a@0g1;3a@0g1 = 2", "share 1 49", "could 0 1 = 4", "share 1 50",
        "could 0 1 = 5", "promise 0", "could 1 1 = 2", "could 0 1 = 5", "share 1 30", "could 1 1 = NOT", "could 0 1 = 3",
        "share 1 0", "could 1 1 = NOT", "could 0 1 = NOT");
    sentence("EARLIEST by MET and SHARE", "supply 0 0 10", "text 3a@0g1;3a@0g1;1a@0g2 = 3", "share 1 29", "could 0 0 = NOT",
        "share 1 30", "could 0 0 = 0", "promise 0", "could 1 0 = NOT", "could 0 0 = 0", "could 2 0 = 0", "share 1 59",
        "could 1 0 = NOT", "share 1 60", "could 1 0 = 0");
    sentence("NOT: by none, while those that are can't be MET", "supply 0 0 5", "supply 1 0 9", "text 5a@0;1b@0 = 2",
        "promise 0", "could 1 0 = 0", "could 1 1 = 9", "supply 0 0 4", "could 1 0 = NOT", "could 1 1 = NOT",
        "could 0 1 = 4", "could 0 0 = NOT");
    sentence("could(): BAD, STATE", "supply 0 0 2", "text 1a@0;1a@0 = 2", "gone 0", "could 0 0 = STATE", "could 0 1 = STATE",
        "could 0 2 = BAD", "could 0 -1 = BAD", "could 1 2 = BAD", "could 1 -1 = BAD", "could 2 0 = BAD", "could -1 0 = BAD",
        "could 1 1 = 2");
  }

  private static void filledEdges() {
    sentence("FILLED: of ASKED ORDERS (8 at most, else LONG)", "supply 0 0 9", "text 1a@0;1a@0;1a@0;1a@0;1a@0;1a@0;1a@0 = 7",
        "filled 0 = 127", "text 1a@0 = 8", "filled 0 = 255", "filled 1 = 8", "text 1a@0 = 9", "filled 0 = LONG",
        "filled 1 = LONG", "gone 3 = 0", "filled 0 = 255", "text 1a@0 = 10", "filled 0 = LONG", "promise 0 = 1",
        "filled 0 = 255", "filled 1 = 8", "giveUp 0 = 0", "filled 1 = LONG");
    sentence("FILLED: more than 8 ORDERS, none ASKED", join(lines("supply 0 0 12",
        "text 1a@0;1a@0;1a@0;1a@0;1a@0;1a@0;1a@0;1a@0;1a@0;1a@0 = 10", "filled 0 = LONG", "promiseAll = 10", "filled 0 = 0",
        "filled 1 = 0"), each(0, 9, "gone #"), lines("filled 0 = 0", "filled 1 = 0")));
    sentence("have most AMOUNT together", "supply 2 11 60", "supply 0 0 10", "text 6a@0;5a@0;5a@0 = 3", "filled 0 = 6",
        "filled 1 = 10",
        "supply 0 0 9", "filled 0 = 1", "filled 1 = 6", "supply 0 0 11", "filled 0 = 3", "filled 1 = 11", "supply 0 0 4",
        "filled 0 = 0", "filled 1 = 0");
    sentence("of several the least as bits", "supply 2 11 60", "supply 0 0 6", "text 3a@0;3a@0;6a@0;3a@0 = 4",
        "filled 0 = 3", "gone 0",
        "filled 0 = 2", "gone 2", "filled 0 = 3", "filled 1 = 6");
    sentence("of several the least as bits: fewer bits aren't less", "supply 2 11 60", "supply 0 0 3",
        "text 1a@0;2a@0;3a@0 = 3", "filled 0 = 3",
        "filled 1 = 3");
    sentence("bits by how manieth ASKED ones (the first ASKED one is bit 0)", "supply 0 0 9", "supply 1 0 9",
        "text 9b@0;2a@0;9b@0;3a@0 = 4", "gone 0", "promise 2 = 1", "filled 0 = 3", "gone 1", "filled 0 = 1", "filled 1 = 3");
    sentence("each GROUP's SHARE, if one of it is taken", "supply 0 0 20", "text 4a@0g1;4a@0g1;3a@0g2 = 3", "promise 0 = 1",
        "filled 0 = 3", "share 1 39", "filled 0 = 2", "filled 1 = 3", "share 1 40", "filled 0 = 3", "share 1 10",
        "filled 0 = 2", "share 2 14", "filled 0 = 0", "filled 1 = 0", "share 2 15", "filled 0 = 2", "filled 1 = 3");
    sentence("ORDERS that are PROMISED stay so (all MET)", "supply 0 0 9", "text 5a@0;5a@0;4a@0;1b@0 = 4", "promise 0 = 1",
        "filled 0 = 2", "filled 1 = 4", "supply 0 0 8", "filled 0 = 0", "supply 1 0 1", "filled 0 = 4", "filled 1 = 1",
        "supply 0 0 4", "filled 0 = 0", "filled 1 = 0", "count 2 = 1");
    sentence("FILLED: two of one GROUP that its SHARE doesn't let be together", "supply 0 0 10", "share 1 50", "share 0 30",
        "text 3a@0g1;3a@0g1;2a@0g1;2a@0;2a@0 = 5", "filled 0 = 13", "filled 1 = 7", "share 1 60", "filled 0 = 11",
        "filled 1 = 8", "share 0 40", "filled 0 = 27", "filled 1 = 10");
    sentence("FILLED: AMOUNT 1 of a SHARE of 0, in each GROUP", "supply 0 0 9", "text 1a@0;1a@0g1;1a@0g2;1a@0g3 = 4",
        "filled 0 = 15", "share 0 0", "filled 0 = 14", "share 1 0", "filled 0 = 12", "share 2 0", "filled 0 = 8",
        "share 3 0",
        "filled 0 = 0", "share 0 12", "filled 0 = 1", "share 0 11", "filled 0 = 0");
    sentence("FILLED, while those that are can't be MET apart from any ASKED one", "supply 0 0 5", "supply 1 0 9",
        "text 5a@0;1b@0 = 2", "promise 0", "filled 0 = 1", "supply 0 0 4", "filled 0 = 0", "filled 1 = 0");
    sentence("FILLED goes by LATEST", "supply 0 1 3", "supply 0 2 3", "text 3a@1;3a@1;3a@2 = 3", "filled 0 = 5", "move 1 2",
        "filled 0 = 3", "move 0 2", "filled 0 = 3", "move 0 0", "filled 0 = 6");
    sentence("filled(): BAD, LONG", "supply 0 0 9", "text 1a@0 = 1", "filled 2 = BAD", "filled -1 = BAD",
        "filled HIGH = BAD",
        "filled LOW = BAD", "filled 0 = 1");
  }

  private static void rangeEdges() {
    sentence("the least and the most it may have of that in any parting", "supply 0 0 3", "supply 0 2 4",
        "text 5a@2;2a@2 = 2",
        "promise 0", "range 0 0 0 0 = 1", "range 0 0 0 1 = 3", "range 0 0 2 0 = 2", "range 0 0 2 1 = 4", "promise 1",
        "range 0 0 0 0 = 1", "range 0 0 0 1 = 3", "range 1 0 0 0 = 0", "range 1 0 0 1 = 2", "move 1 0",
        "range 0 0 0 0 = 1", "range 0 0 0 1 = 1", "range 1 0 0 0 = 2", "range 0 0 2 0 = 4");
    sentence("RANGE: all of a SUPPLY, all of an AMOUNT", "supply 1 3 5", "text 5b@3 = 1", "promise 0", "range 0 1 3 0 = 5",
        "range 0 1 3 1 = 5", "supply 1 3 6", "range 0 1 3 0 = 5", "range 0 1 3 1 = 5", "supply 1 0 1", "range 0 1 3 0 = 4",
        "range 0 1 3 1 = 5", "range 0 1 0 0 = 0", "range 0 1 0 1 = 1");
    sentence("RANGE of a SUPPLY of no ITEM of its, behind its LATEST, or of 0", "supply 0 5 9", "supply 0 6 9",
        "supply 1 5 9",
        "text 5a@5;1b@11 = 2", "promise 0", "range 0 0 5 1 = 5", "range 0 0 6 0 = 0", "range 0 0 6 1 = 0",
        "range 0 1 5 0 = 0",
        "range 0 1 5 1 = 0", "range 0 0 4 0 = 0", "range 0 0 4 1 = 0", "range 0 0 0 1 = 0", "move 0 6", "range 0 0 6 1 = 5",
        "range 0 0 5 0 = 0");
    sentence("RANGE in PERIODS 0 and 11, of ITEMS 0 and 2", "supply 0 0 2", "supply 2 11 2", "text 3ac@11 = 1", "promise 0",
        "range 0 0 0 0 = 1", "range 0 0 0 1 = 2", "range 0 2 11 0 = 1", "range 0 2 11 1 = 2", "range 0 1 0 1 = 0");
    sentence("NOT: they can't be MET", "supply 0 0 5", "supply 1 0 5", "text 5a@0;5b@0 = 2", "promiseAll = 2",
        "range 1 1 0 0 = 5", "supply 0 0 4", "range 1 1 0 0 = NOT", "range 1 1 0 1 = NOT", "range 0 0 0 1 = NOT",
        "range 1 0 0 1 = NOT", "range 1 1 11 1 = NOT", "supply 0 0 5", "range 1 1 0 1 = 5");
    sentence("range(): BAD; STATE: it isn't PROMISED", "supply 0 0 5", "text 1a@0;1a@0;1a@0 = 3", "promise 1", "gone 2",
        "range 0 0 0 0 = STATE", "range 2 0 0 0 = STATE", "range 1 0 0 0 = 1", "range 1 0 0 1 = 1", "range 1 0 0 2 = BAD",
        "range 1 0 0 -1 = BAD", "range 1 3 0 0 = BAD", "range 1 -1 0 0 = BAD", "range 1 0 12 0 = BAD",
        "range 1 0 -1 0 = BAD",
        "range 3 0 0 0 = BAD", "range -1 0 0 0 = BAD", "range 1 2 11 1 = 0");
    sentence("SHARES don't matter for RANGE", "supply 0 0 5", "text 3a@0 = 1", "promise 0", "share 0 0", "range 0 0 0 0 = 3",
        "range 0 0 0 1 = 3");
  }

  private static void spareEdges() {
    sentence("SPARE: the most besides all that are PROMISED (0: nothing)", "supply 0 0 5", "text 5a@0 = 1", "spare 1 0 = 5",
        "promise 0", "spare 1 0 = 0", "spare 1 11 = 0", "supply 0 0 6", "spare 1 0 = 1", "supply 0 3 2", "spare 1 2 = 1",
        "spare 1 3 = 3", "move 0 3", "spare 1 2 = 3", "supply 0 3 5", "spare 1 2 = 6", "spare 1 3 = 6");
    sentence("these can't be MET: 0", "supply 0 0 5", "supply 1 0 7", "text 5a@0 = 1", "promise 0", "spare 2 0 = 7",
        "supply 0 0 4", "spare 2 0 = 0", "spare 7 11 = 0", "supply 0 0 5", "spare 2 0 = 7");
    sentence("no SHARE, no bound", "supply 0 0 99", "supply 0 1 99", "share 0 0", "share 1 0", "share 2 0", "share 3 0",
        "spare 1 0 = 99", "spare 1 1 = 198", "spare 7 11 = 198");
    sentence("a set of ITEMS (bits 1 .. 7) and LATEST", "supply 0 0 1", "supply 1 0 2", "supply 2 0 4", "supply 2 11 8",
        "spare 0 0 = BAD", "spare 1 0 = 1", "spare 2 0 = 2", "spare 3 0 = 3", "spare 4 0 = 4", "spare 5 0 = 5",
        "spare 6 0 = 6", "spare 7 0 = 7", "spare 8 0 = BAD", "spare -1 0 = BAD", "spare 7 -1 = BAD", "spare 7 10 = 7",
        "spare 7 11 = 15", "spare 7 12 = BAD", "spare HIGH 0 = BAD", "spare LOW 0 = BAD", "spare 1 HIGH = BAD",
        "spare 1 LOW = BAD");
  }

  // ---- late

  private static void lateEdges() {
    sentence("SUPPLIES may be told so that not all that are PROMISED can be MET any more", "supply 0 0 5", "text 5a@0 = 1",
        "promise 0 = 1", "supply 0 0 4 = 5", "of 0 5 = 1", "of 0 6 = 1", "count 2 = 1", "late = 1", "kept -1 = 0",
        "kept 0 = NOT", "supply 0 0 5 = 4", "late = 0", "kept 0 = 0", "kept 1 = NOT");
    sentence("KEPT: by RANK, the greatest first", "supply 0 0 12", "text 3a@0;3a@0r1;3a@0r9;3a@0r8 = 4", "promiseAll = 4",
        "keeps = 2 3 1 0", "kept 4 = NOT", "supply 0 0 9", "keeps = 2 3 1", "kept 3 = NOT", "supply 0 0 8", "keeps = 2 3",
        "supply 0 0 3", "keeps = 2", "supply 0 0 2", "keeps = ", "late = 4");
    sentence("then by numbers", "supply 0 0 9", "text 3a@0r4;3a@0r4;3a@0r4 = 3", "promiseAll = 3", "keeps = 0 1 2",
        "supply 0 0 6", "keeps = 0 1", "supply 0 0 5", "keeps = 0", "of 0 6 = 0", "of 1 6 = 1", "of 2 6 = 1");
    sentence("each one that can be MET together with all KEPT ahead of it", "supply 0 0 9", "text 4a@0r5;3a@0r5;2a@0 = 3",
        "promiseAll = 3", "supply 0 0 6", "keeps = 0 2", "late = 1", "supply 0 0 7", "keeps = 0 1", "supply 0 0 3",
        "keeps = 1",
        "supply 0 0 2", "keeps = 2", "supply 0 0 1", "keeps = ");
    sentence("KEPT ones are PROMISED ones, however great the RANK of others", "supply 0 0 9", "text 3a@0;3a@0r9;3a@0r8 = 3",
        "promise 0", "promise 2", "keeps = 2 0", "gone 2", "keeps = 0", "late = 0", "giveUp 0", "keeps = ");
    sentence("kept(): i -1: how many; BAD: i below -1; NOT: there are not as many", "supply 0 0 9", "text 3a@0;3a@0 = 2",
        "promiseAll", "kept -2 = BAD", "kept -1 = 2", "kept 0 = 0", "kept 1 = 1", "kept 2 = NOT", "kept HIGH = NOT",
        "kept LOW = BAD");
    sentence("WHY one is LATE: if just those KEPT ahead of it, and it, were PROMISED", "supply 0 0 9",
        "text 4a@3r5;3a@5;2a@0r9 = 3", "promiseAll = 3", "why 0 = STATE", "supply 0 0 5", "keeps = 2 1", "why 0 = 40000",
        "why 1 = STATE", "why 2 = STATE", "supply 0 0 3", "keeps = 2", "why 0 = 40000", "why 1 = 60000", "supply 0 0 1",
        "keeps = ", "why 2 = 10000", "why 0 = 40000", "why 1 = 60000");
    sentence("WHY: one that is KEPT behind it doesn't count, one that is LATE ahead of it neither", "supply 0 0 24",
        "text 9a@8r9;8a@4r8;7a@6r7;1a@11r1 = 4", "supply 0 9 9", "promiseAll = 4", "supply 0 0 8", "keeps = 1 3",
        "why 0 = 90000", "why 2 = 70000", "supply 0 0 7", "keeps = 2 3", "why 0 = 90000", "why 1 = 50000");
    sentence("WHY: KEPT ahead of it by number, KEPT behind it by number", "supply 0 0 10", "text 1a@11;9a@6 = 2",
        "promiseAll = 2", "supply 0 0 9", "keeps = 0", "why 1 = 120000", "giveUp 0", "gone 0", "text 1a@11 = 3",
        "supply 0 0 10",
        "promise 2 = 2", "supply 0 0 8", "keeps = 2", "why 1 = 70000", "why 2 = STATE");
    sentence("WHY: KEPT ahead of it by RANK though behind it by number", "supply 0 0 10", "text 9a@6r1;1a@11r2 = 2",
        "promiseAll = 2", "supply 0 0 9", "keeps = 1", "why 0 = 120000", "supply 0 0 8", "keeps = 1", "why 0 = 120000");
    sentence("WHY: the STEP goes by LATEST as moved, of several by the least q0, q1, q2", "supply 1 0 3", "supply 2 0 3",
        "text 6bc@4;1a@0 = 2", "promise 0", "move 0 7", "supply 2 0 0", "why 0 = 808", "supply 1 0 0", "why 0 = 808",
        "supply 2 11 9", "why 0 = 808", "of 0 6 = 1");
    sentence("why() goes by MET alone; BAD; STATE: it isn't LATE", "supply 0 0 5", "text 5a@0;5a@0;5a@0 = 3", "promise 0",
        "gone 2", "share 0 0", "why 0 = STATE", "why 1 = STATE", "why 2 = STATE", "supply 0 0 0", "why 0 = 10000",
        "why 1 = STATE", "why 2 = STATE", "why 3 = BAD", "why -1 = BAD", "why HIGH = BAD", "why LOW = BAD");
  }

  // ---- THE TAPE and its TEXTS

  private static void tapeEdges() {
    sentence("A byte (32 .. 126) comes to THE TAPE", "feed 31 = BAD", "feed 32 = 1", "feed 126 = 2", "feed 127 = BAD",
        "feed -1 = BAD", "feed 0 = BAD", "feed 305 = BAD", "feed HIGH = BAD", "feed LOW = BAD", "feed 33 = 3",
        "feed 125 = 4",
        "count 4 = 4", "orders = -100", "count 4 = 0");
    sentence("THE TAPE (100 bytes at most)", join(each(1, 99, "feed 49 = #"), lines("count 4 = 99", "feed 127 = BAD",
        "feed 50 = 100", "feed 51 = FULL", "feed 32 = FULL", "feed 127 = BAD", "feed 31 = BAD", "count 4 = 100",
        "orders = -102", "count 4 = 0", "feed 51 = 1")));
    sentence("a TEXT of 100 bytes", "text 10abc@11g3r9;1ab@11g2r3;1ab@11g2r3;1ab@11g2r3;1ab@11g2r3;1ab@11g2r3;1ab@11g2r3;"
        + "1ab@11g2r3;1ab@11g2r4 = 9", "of 8 4 = 4", "of 7 4 = 3", "count 4 = 0");
    sentence("a FAULT in byte 99, and one at the end of 100 bytes", "text 10abc@11g3r9;1ab@11g2r3;1ab@11g2r3;1ab@11g2r3;"
        + "1ab@11g2r3;1ab@11g2r3;1ab@11g2r3;1ab@11g2r3;1ab@11g2rr = -199", "text 10abc@11g3r9;1ab@11g2r3;1ab@11g2r3;"
        + "1ab@11g2r3;1ab@11g2r3;1ab@11g2r3;1ab@11g2r3;1ab@11g2r3;01ab@11g2r = -200", "count 0 = 0");
    sentence("a TEXT of 100 bytes that others don't hear of: what stood on THE TAPE ahead is no longer there",
        "text 10abc@11g3r9;1ab@11g2r3 = 2", "text 1a@1 = 3", "of 2 3 = 0", "of 2 4 = 0", "text 1a@1g = -105",
        "text 1a@1r = -105",
        "text 1a = -102", "text 1 = -101", "orders = -100", "count 0 = 3");
    sentence("THE TAPE is empty behind each call that reads it, by a FAULT, too", "tape 1a@0 = 4", "count 4 = 4",
        "orders = 1",
        "count 4 = 0", "tape 1a@ = 3", "orders = -103", "count 4 = 0", "tape x = 1", "orders = -100", "count 4 = 0",
        "orders = -100", "count 4 = 0", "tape 1b@0 = 4", "orders = 2", "of 1 1 = 2");
    sentence("THE TAPE stays behind calls that don't read it", "supply 0 0 9", "row 0 2", "text 1a@0 = 1", "tape 2a@0 = 4",
        "image = 0", "promise 0 = 1", "move 0 3 = 0", "promiseAll = 0", "undo = 3", "redo = 0", "from 0 0 1 0 = 2",
        "lefts 0 0 = 2", "filled 0 = 0", "ledger 0 0 = 48", "back = 0", "promise 7 = BAD", "count 4 = 4", "orders = 2",
        "of 1 0 = 2");
    sentence("ORDERS that come are no CHANGE; a TEXT that is refused is none", "supply 0 0 9", "count 5 = 1",
        "text 1a@0 = 1",
        "count 5 = 1", "text 1a@ = -103", "count 5 = 1", "count 1 = 1");
  }

  private static void faults(String title, String... textsAndFaults) {
    String[] lines = new String[textsAndFaults.length];
    int n = 0;
    for (int i = 0; i + 1 < textsAndFaults.length; i += 2) {
      lines[n++] = "text " + textsAndFaults[i] + " = " + (-100 - Integer.parseInt(textsAndFaults[i + 1]));
      lines[n++] = "count 0 = 0";
    }
    sentence(title, lines);
  }

  private static void faultEdges() {
    faults("FAULT: of a number that may not be: where it begins", "0a@1", "0", "00a@1", "0", "61a@1", "0", "99a@1", "0",
        "6a@12",
        "3", "6a@99", "3", "16ab@12g1", "5", "6a@1;0a@1", "5", "6a@1;61a@1", "5", "6a@1;6a@12", "8", "60abc@11g3r9;00a",
        "13",
        "0", "0", "00", "0", "61", "0", "6a@12r1", "3", "0b", "0", "61@", "0", "6a@1g4", "5", "6a@1g9r1", "5");
    sentence("numbers that just may be", "text 01a@00 = 1", "text 60a@011 = -106", "text 60a@11 = 2", "text 09a@09g3r9 = 3",
        "of 0 0 = 1", "of 0 2 = 0", "of 1 2 = 11", "of 2 0 = 9", "of 2 2 = 9");
    faults("as many figures as stand there, two at most", "100a@1", "2", "011a@1", "2", "1 1a@1", "1", "6a@111", "5",
        "6a@001",
        "5", "6a@1 1", "4", "600a@1", "2", "610a@1", "0", "000a@1", "0", "6a@120", "3");
    faults("a letter that stands in the LINE already: its place", "6aa@1", "2", "6bab@1", "3", "6abcc@1", "4", "6abca@1",
        "4",
        "6cbb", "3", "6a@1g1g1", "6", "6a@1r1r1", "6", "6a@1g1r1r1", "8", "6a@1g1r1g1", "8", "6a@1;6bb@1", "7");
    sentence("the same letter in another LINE, letters in any order", "text 6a@1;6a@1 = 2", "text 6cba@1;6bac@1;6cb@1 = 5",
        "of 2 1 = 7", "of 3 1 = 7", "of 4 1 = 6");
    faults("the first byte with which no TEXT goes on", "a", "0", "x6a@1", "0", " 6a@1", "0", ";", "0", ";6a@1", "0",
        "-6a@1",
        "0", "@", "0", "6@1", "1", "6;", "1", "6 a@1", "1", "6d@1", "1", "6A@1", "1", "6a1", "2", "6a;", "2", "6a @1", "2",
        "6ag1", "2", "6abcd@1", "4", "6a@a", "3", "6a@;", "3", "6a@-1", "3", "6a@@", "3", "6a@1x", "4", "6a@1@", "4",
        "6a@1a",
        "4", "6a@1 ", "4", "6a@1G1", "4", "6a@1gg", "5", "6a@1g;", "5", "6a@1gr1", "5", "6a@1g-", "5", "6a@1g01", "6",
        "6a@1rr",
        "5", "6a@1r;", "5", "6a@1r/", "5", "6a@1r:", "5", "6a@1g/", "5", "6a@1r11", "6", "6a@1g1x", "6", "6a@1r1x", "6",
        "6a@1g1r1x", "8", "6a@1;;6a@1", "5", "6a@1; 6a@1", "5", "6a@1,6a@1", "4");
    faults("g and its figure ahead of r and its figure", "6a@1r1g1", "6", "6a@1r9g3", "6");
    faults("the bytes beside figures and letters", "/a@1", "0", ":a@1", "0", "6`@1", "1", "6a@/", "3", "6a@:", "3",
        "6a?1", "2",
        "6aA1", "2", "6a@1f1", "4", "6a@1h1", "4", "6a@1q1", "4", "6a@1s1", "4", "6a@1:6a@1", "4", "6a@1<6a@1", "4");
    faults("the length, if it ends too early", "", "0", "6", "1", "60", "2", "6a", "2", "6abc", "4", "6a@", "3", "6a@1g",
        "5",
        "6a@11g", "6", "6a@1r", "5", "6a@1g1r", "7", "6a@1;", "5", "6a@1;6", "6", "6a@1;6a", "7", "6a@1;6a@", "8",
        "6a@1g1r1;", "9");
    sentence("a TEXT may end behind LATEST, behind GROUP, behind RANK", "text 6a@1 = 1", "text 6a@1g1 = 2",
        "text 6a@1r1 = 3",
        "text 6a@1g1r1 = 4", "text 6a@01;6a@1 = 6");
    faults("what can't stand where it stands is the FAULT, whatever comes behind it", "6aa@12", "2", "0aa@12", "0",
        "6a@12;x", "3",
        "6a@1g4r", "5", "6d@1;0a@1", "1", "61a@12", "0", "6a@x;61a@1", "3");
    sentence("Whole TEXTS come or nothing", "text 1a@0;2a@0;3a@0x = -114", "count 0 = 0", "text 4b@1g1r1 = 1",
        "text 1a@0;2a@0;61a@0 = -110", "count 0 = 1", "of 0 0 = 4", "of 1 0 = BAD", "text 5c@2 = 2", "of 0 0 = 4",
        "of 0 1 = 2",
        "of 0 2 = 1", "of 0 3 = 1", "of 0 4 = 1", "of 1 0 = 5", "of 1 1 = 4", "of 1 2 = 2", "of 1 3 = 0", "of 1 4 = 0");
  }

  private static void twentyFifthEdges() {
    String[] twentyTwo = lines("text 1a@0;1a@0;1a@0;1a@0;1a@0;1a@0;1a@0;1a@0;1a@0;1a@0;1a@0 = 11",
        "text 1a@0;1a@0;1a@0;1a@0;1a@0;1a@0;1a@0;1a@0;1a@0;1a@0;1a@0 = 22");
    sentence("of an ORDER that would be the 25th: where its LINE would begin", join(twentyTwo,
        lines("text 1a@0;11a@0;1a@0 = -111", "count 0 = 22", "text 1a@0;1a@0;1a@0;1a@0 = -110", "count 0 = 22",
            "text 1a@0;2b@11 = 24", "count 0 = 24", "of 23 0 = 2", "of 24 0 = BAD")));
    sentence("whatever stands there", join(twentyTwo, lines("text 1a@0;1a@0;x = -110", "text 1a@0;1a@0;0a@0 = -110",
        "text 1a@0;1a@0;61 = -110", "text 1a@0;1a@0; = -110", "text 1a@0;1a@0;; = -110", "text 1a@0;1a@0;1aa = -110",
        "text 1a@0;1a@0x = -109", "text 1a@0;1a@12;1a@0 = -108", "text 1a@0;1a@0g; = -110", "count 0 = 22")));
    sentence("a 25th at once", join(twentyTwo, lines("text 1a@0;1a@0 = 24", "text 1a@0 = -100", "text x = -100",
        "orders = -100",
        "text ; = -100", "count 0 = 24", "count 4 = 0", "gone 0 = 0", "text 1a@0 = -100", "back = STATE", "of 23 5 = 0")));
    sentence("24 ORDERS, all PROMISED", join(lines("supply 0 0 24"), twentyTwo, lines("text 1a@0;1a@0r5 = 24",
        "promiseAll = 24",
        "count 2 = 24", "count 8 = 24", "left 10000 = 0", "late = 0", "kept -1 = 24", "kept 0 = 23", "kept 23 = 22",
        "kept 24 = NOT", "group 0 2 = 24", "range 23 0 0 1 = 1", "swap 22 23 = 1", "gone 23 = 23", "undo = 3", "of 23 5 = 1",
        "swap 23 24 = BAD", "swap 24 23 = BAD", "promise 24 = BAD", "giveUp 24 = BAD", "gone 24 = BAD", "move 24 0 = BAD",
        "why 24 = BAD", "why 23 = STATE")));
  }

  private static void ledgerEdges() {
    sentence("A LEDGER: its number, :, AMOUNT, letters in order, @, LATEST, g, GROUP, r, RANK, a blank, and what it is",
        "supply 0 0 20", "text 1a@0;9cb@9g3r9;10bac@10;60c@11r1 = 4", "print 0 = 0:1a@0g0r0 asked",
        "print 1 = 1:9bc@9g3r9 asked",
        "print 2 = 2:10abc@10g0r0 asked", "print 3 = 3:60c@11g0r1 asked", "promise 2", "print 2 = 2:10abc@10g0r0 promised",
        "supply 0 0 9", "print 2 = 2:10abc@10g0r0 late", "gone 2", "print 2 = 2:10abc@10g0r0 gone", "move 0 10",
        "print 0 = 0:1a@10g0r0 asked", "move 3 9", "print 3 = 3:60c@9g0r1 asked", "text 59a@0;18b@7 = 6",
        "print 4 = 4:59a@0g0r0 asked", "print 5 = 5:18b@7g0r0 asked");
    sentence("its number: 9, 10, 23", "text 1a@0;1a@0;1a@0;1a@0;1a@0;1a@0;1a@0;1a@0;1a@0;1a@0;1a@0;1a@0 = 12",
        "text 1a@0;1a@0;1a@0;1a@0;1a@0;1a@0;1a@0;1a@0;1a@0;1a@0;1a@0;60cab@11g3r9 = 24", "print 9 = 9:1a@0g0r0 asked",
        "print 10 = 10:1a@0g0r0 asked", "print 23 = 23:60abc@11g3r9 asked", "ledger 24 0 = BAD");
    sentence("the longest LEDGER", "supply 0 0 99",
        "text 1a@0;1a@0;1a@0;1a@0;1a@0;1a@0;1a@0;1a@0;1a@0;1a@0;60abc@11g3r9 = 11",
        "promise 10 = 1", "print 10 = 10:60abc@11g3r9 promised", "ledger 10 -1 = 24", "ledger 10 23 = 100",
        "ledger 10 24 = NOT");
    sentence("Byte i (i -1: how many); BAD; NOT: it has fewer", "text 6a@2 = 1", "ledger 0 -1 = 16", "ledger 0 0 = 48",
        "ledger 0 15 = 100", "ledger 0 16 = NOT", "ledger 0 HIGH = NOT", "ledger 0 -2 = BAD", "ledger 0 LOW = BAD",
        "ledger 1 0 = BAD", "ledger 1 99 = BAD", "ledger -1 0 = BAD", "ledger -1 -1 = BAD", "ledger 1 -1 = BAD");
  }

  // ---- rows

  private static void shelvesEdges() {
    sentence("SHELVES 0 .. 3 hold nothing (at first)", "get 0 0 = MIN", "get 3 0 = MIN", "put 0 0 1 = NOTHING",
        "put 3 0 1 = NOTHING", "put -1 0 1 = BAD", "put 4 0 1 = BAD", "from 0 0 0 0 = NOTHING", "from 3 0 0 0 = NOTHING",
        "from 4 0 0 0 = BAD", "from -1 0 0 0 = BAD", "lefts 0 0 = NOTHING", "lefts 3 0 = NOTHING", "lefts 4 0 = BAD",
        "lefts -1 0 = BAD", "row -1 1 = BAD", "row 4 1 = BAD", "row HIGH 1 = BAD", "row LOW 1 = BAD", "row 3 1 = 1",
        "row 0 1 = 1", "get 0 0 = 0", "get 1 0 = MIN", "get 2 0 = MIN", "get 3 0 = 0", "get 4 0 = MIN", "get -1 0 = MIN");
    sentence("a ROW of 0 .. 24 longs (0 at first)", "row 1 25 = BAD", "get 1 0 = MIN", "row 1 -1 = SIZE", "get 1 0 = MIN",
        "row 1 24 = 1", "get 1 0 = 0", "get 1 23 = 0", "get 1 24 = MIN", "put 1 23 5 = 1", "row 1 25 = BAD", "get 1 23 = 5",
        "row 1 -1 = SIZE", "get 1 23 = 5", "row 1 HIGH = BAD", "row 1 LOW = SIZE", "row 1 0 = 1", "get 1 0 = MIN",
        "put 1 0 1 = PLACE", "row 1 24 = 1", "get 1 23 = 0", "get 0 23 = MIN", "get 2 0 = MIN");
    sentence("SIZE (-14): a size below 0; BAD ahead of it", "row 4 -1 = BAD", "row -1 -1 = BAD", "row -1 25 = BAD",
        "row 0 0 = 1",
        "row 3 -1 = SIZE", "put 3 0 1 = NOTHING");
    sentence("NOTHING: there is none; a ROW of 0 longs is one", "row 2 0 = 1", "put 2 0 1 = PLACE", "get 2 0 = MIN",
        "from 2 0 0 0 = 0", "count 5 = 1", "from 2 1 0 0 = 0", "from 2 -1 0 0 = PLACE", "lefts 2 0 = 0", "lefts 2 9 = 0",
        "lefts 2 -1 = PLACE", "count 5 = 2", "put 1 0 1 = NOTHING", "put 1 -1 1 = NOTHING", "from 1 -1 0 0 = NOTHING",
        "lefts 1 -1 = NOTHING");
    sentence("Place i of a ROW; PLACE: no such place", "row 0 3", "row 1 3", "put 0 -1 1 = PLACE", "put 0 0 1 = 1",
        "put 0 2 3 = 1", "put 0 3 4 = PLACE", "put 0 HIGH 4 = PLACE", "put 0 LOW 4 = PLACE", "shelf 0 = 1 0 3",
        "shelf 1 = 0 0 0", "get 0 -1 = MIN", "get 0 3 = MIN", "get 0 HIGH = MIN", "get 0 LOW = MIN", "get HIGH 0 = MIN",
        "get LOW 0 = MIN");
    sentence("longs: the least, the greatest, -1", "row 2 3", "put 2 0 MIN = 1", "put 2 1 MAX = 1", "put 2 2 -1 = 1",
        "get 2 0 = MIN", "get 2 1 = MAX", "get 2 2 = -1");
    sentence("a new ROW: 0 at first; other SHELVES keep theirs", "row 0 2", "row 1 2", "put 0 0 8", "put 1 1 9",
        "row 0 2 = 1",
        "shelf 0 = 0 0", "shelf 1 = 0 9", "row 0 3 = 1", "shelf 0 = 0 0 0", "put 0 2 7", "row 0 1", "row 0 4",
        "shelf 0 = 0 0 0 0");
    sentence("row(), put(), lefts() are no CHANGE, and none is UNDONE by undo(), back()", "image = 0", "supply 0 0 7",
        "row 0 2",
        "put 0 0 5", "lefts 0 1 = 1", "count 5 = 1", "undo = 0", "shelf 0 = 5 7", "redo = 0", "back = 0", "shelf 0 = 5 7");
  }

  private static void fromEdges() {
    sentence("FROM A ROW, until the ROW ends", "row 0 3", "put 0 0 1", "put 0 1 2", "put 0 2 3", "supply 1 3 9",
        "from 0 0 1 0 = 3", "supplied 1 0 = 1", "supplied 1 1 = 2", "supplied 1 2 = 3", "supplied 1 3 = 9",
        "from 0 2 1 5 = 1",
        "supplied 1 5 = 3", "supplied 1 6 = 0", "count 5 = 3");
    sentence("until PERIODS end", "row 0 3", "put 0 0 1", "put 0 1 2", "put 0 2 3", "from 0 0 0 9 = 3", "supplied 0 11 = 3",
        "from 0 0 1 10 = 2", "supplied 1 10 = 1", "supplied 1 11 = 2", "supplied 2 0 = 0", "from 0 1 2 11 = 1",
        "supplied 2 11 = 2", "from 0 0 0 11 = 1", "supplied 1 0 = 0", "count 7 = 9");
    sentence("PERIODS end and the ROW ends together; a ROW longer than PERIODS", join(lines("row 3 24"),
        each(0, 23, "put 3 # #"), lines("from 3 0 2 0 = 12", "supplied 2 0 = 0", "supplied 2 11 = 11", "from 3 12 2 0 = 12",
        "supplied 2 0 = 12", "supplied 2 11 = 23", "from 3 13 0 0 = 11", "supplied 0 10 = 23", "supplied 0 11 = 0")));
    sentence("or one is not 0 .. 99", "row 0 4", "put 0 0 99", "put 0 1 0", "put 0 2 100", "put 0 3 5", "supply 0 1 7",
        "supply 0 2 8", "supply 0 3 9", "from 0 0 0 0 = 2", "supplied 0 0 = 99", "supplied 0 1 = 0", "supplied 0 2 = 8",
        "supplied 0 3 = 9", "put 0 2 -1", "from 0 1 0 1 = 1", "supplied 0 2 = 8", "from 0 2 0 2 = 0", "supplied 0 2 = 8",
        "put 0 2 MAX", "from 0 2 0 2 = 0", "put 0 2 MIN", "from 0 2 0 2 = 0", "put 0 2 4294967297", "from 0 2 0 2 = 0",
        "put 0 2 -4294967295", "from 0 2 0 2 = 0", "supplied 0 2 = 8", "from 0 3 0 2 = 1", "supplied 0 2 = 5");
    sentence("from() with i at the end of the ROW or behind it: 0 (a CHANGE then, too)", "row 0 2", "from 0 1 0 0 = 1",
        "from 0 2 0 0 = 0", "count 5 = 2", "from 0 3 0 0 = 0", "from 0 24 0 0 = 0", "from 0 HIGH 0 0 = 0", "count 5 = 5",
        "from 0 -1 0 0 = PLACE", "from 0 LOW 0 0 = PLACE", "count 5 = 5", "undo = 4", "from 0 2 0 0 = 0", "redo = STATE",
        "count 5 = 5");
    sentence("from(): BAD: shelf, item, period", "row 0 1", "from 0 0 3 0 = BAD", "from 0 0 -1 0 = BAD",
        "from 0 0 0 12 = BAD",
        "from 0 0 0 -1 = BAD", "from 4 0 0 0 = BAD", "from -1 0 0 0 = BAD", "from 0 -1 3 0 = BAD", "from 1 0 0 12 = BAD",
        "from 0 0 2 11 = 1", "from 0 9 3 0 = BAD", "count 5 = 1");
    sentence("SUPPLIES FROM A ROW are UNDONE at once, and DONE AGAIN; the ROW may be another then", "row 0 3", "put 0 0 1",
        "put 0 1 2", "put 0 2 3", "supply 0 1 50", "from 0 0 0 0 = 3", "count 7 = 6", "row 0 0", "undo = 1", "count 7 = 50",
        "redo = 0", "count 7 = 6", "supplied 0 1 = 2");
    sentence("SUPPLIES FROM A ROW may make ORDERS LATE", "supply 0 0 5", "text 5a@0 = 1", "promise 0", "row 0 1",
        "from 0 0 0 0 = 1", "late = 1", "undo = 2", "late = 0", "redo = 0", "late = 1");
  }

  private static void leftsEdges() {
    sentence("what is LEFT at (p, p, p), p 0, 1, .., until PERIODS end", "supply 0 0 1", "supply 1 5 10", "supply 2 11 30",
        "row 0 14", "put 0 12 -5", "put 0 13 -6", "lefts 0 0 = 12", "shelf 0 = 1 1 1 1 1 11 11 11 11 11 11 41 -5 -6",
        "put 0 0 77", "lefts 0 1 = 12", "shelf 0 = 77 1 1 1 1 1 11 11 11 11 11 11 41 -6", "count 5 = 3");
    sentence("until places end", "supply 0 0 1", "supply 0 1 2", "row 0 3", "row 1 13", "put 0 0 9", "lefts 0 1 = 2",
        "shelf 0 = 9 1 3", "lefts 0 2 = 1", "shelf 0 = 9 1 1", "lefts 1 1 = 12", "lefts 1 2 = 11", "get 2 0 = MIN",
        "lefts 0 0 = 3", "shelf 0 = 1 3 3");
    sentence("lefts() with i at the end of the ROW or behind it: 0", "supply 0 0 1", "row 0 2", "row 1 2", "put 1 0 4",
        "lefts 0 2 = 0", "lefts 0 3 = 0", "lefts 0 24 = 0", "lefts 0 HIGH = 0", "lefts 0 -1 = PLACE", "lefts 0 LOW = PLACE",
        "shelf 0 = 0 0", "shelf 1 = 4 0", "count 5 = 1");
    sentence("LEFTS less the AMOUNTS of those PROMISED; below 0, too", "supply 0 0 9", "supply 1 0 9", "row 0 4",
        "text 5a@0;4b@2;1c@1 = 3", "promise 0", "promise 1", "lefts 0 0 = 4", "shelf 0 = 13 13 9 9", "supply 0 0 0",
        "supply 1 0 3", "lefts 0 0 = 4", "shelf 0 = -2 -2 -6 -6", "gone 0", "lefts 0 0 = 4", "shelf 0 = 3 3 -1 -1");
  }

  // ---- promising, moving, swapping

  private static void promiseEdges() {
    sentence("promise(): BAD; STATE: it isn't ASKED; NOT: it can't be", "supply 2 11 60", "supply 0 0 5",
        "text 5a@0;1a@0;1a@0 = 3", "promise 0 = 1",
        "promise 0 = STATE", "promise 1 = NOT", "gone 2 = 1", "promise 2 = STATE", "promise 3 = BAD", "promise -1 = BAD",
        "promise HIGH = BAD", "promise LOW = BAD", "count 5 = 4", "supply 0 0 6", "promise 1 = 2", "promise 2 = STATE");
    sentence("promise(): all that are PROMISED are MET with it", "supply 0 0 5", "supply 1 0 9", "text 5a@0;1b@0 = 2",
        "promise 0 = 1", "supply 0 0 4", "promise 1 = NOT", "promiseAll = 0", "count 5 = 5", "of 1 5 = 0", "supply 0 0 5",
        "promiseAll = 1");
    sentence("promiseAll(): by RANK (the greatest first), then by numbers", "supply 2 11 60", "supply 0 0 6",
        "text 3a@0r2;3a@0r2;3a@0r2;3a@0r3;3a@0r1;3a@0 = 6", "promiseAll = 2", "of 0 5 = 1", "of 1 5 = 0", "of 2 5 = 0",
        "of 3 5 = 1", "of 4 5 = 0", "of 5 5 = 0", "supply 0 0 11", "promiseAll = 1", "of 1 5 = 1", "supply 0 0 15",
        "promiseAll = 2", "of 4 5 = 1", "of 5 5 = 0", "promiseAll = 0", "gone 5", "supply 0 0 99", "promiseAll = 0");
    sentence("promiseAll(): RANK 9 first, RANK 0 last", "supply 2 11 60", "supply 0 0 3", "text 3a@0;3a@0r9;3a@0r8 = 3",
        "promiseAll = 1",
        "of 1 5 = 1", "giveUp 1", "gone 1", "promiseAll = 1", "of 2 5 = 1", "gone 2", "promiseAll = 1", "of 0 5 = 1");
    sentence("looks at each one with those that were PROMISED ahead of it; one that can't be is passed over",
        "supply 2 11 60", "supply 0 0 6",
        "text 4a@0r3;3a@0r2;2a@0r1;1b@0r9 = 4", "promiseAll = 2", "of 0 5 = 1", "of 1 5 = 0", "of 2 5 = 1", "of 3 5 = 0",
        "count 2 = 2");
    sentence("promiseAll() goes by each GROUP's SHARE", "supply 0 0 10", "share 1 50", "share 2 49",
        "text 5a@0g1;1a@0g1r9;4a@0g1r1;5a@0g2;4a@0g2 = 5", "promiseAll = 3", "of 0 5 = 0", "of 1 5 = 1", "of 2 5 = 1",
        "of 3 5 = 0", "of 4 5 = 1");
    sentence("it is a CHANGE also if none was", "promiseAll = 0", "count 5 = 1", "text 1a@0 = 1", "promiseAll = 0",
        "count 5 = 2",
        "undo = 1", "count 6 = 1", "promiseAll = 0", "count 6 = 0", "count 5 = 2");
    sentence("All that promiseAll() did is one CHANGE", "supply 0 0 6", "text 1a@0;2a@0;3a@0;4a@0 = 4", "promiseAll = 3",
        "count 5 = 2", "undo = 1", "count 2 = 0", "redo = 0", "count 2 = 3", "of 3 5 = 0");
    sentence("giveUp(): BAD; STATE: it isn't PROMISED", "supply 0 0 5", "text 5a@0;5a@0;1a@0 = 3", "promise 0", "gone 2",
        "giveUp 1 = STATE", "giveUp 2 = STATE", "giveUp 3 = BAD", "giveUp -1 = BAD", "giveUp HIGH = BAD", "giveUp LOW = BAD",
        "giveUp 0 = 0", "giveUp 0 = STATE", "promise 1 = 1", "supply 0 0 0", "late = 1", "giveUp 1 = 0", "late = 0");
    sentence("gone(): An ORDER that isn't GONE is GONE: how many are PROMISED; BAD; STATE", "supply 0 0 5",
        "text 3a@0;2a@0;1a@0 = 3", "promise 0", "promise 1", "gone 0 = 1", "gone 0 = STATE", "gone 2 = 1", "gone 2 = STATE",
        "gone 3 = BAD", "gone -1 = BAD", "gone HIGH = BAD", "gone LOW = BAD", "supply 0 0 0", "late = 1", "gone 1 = 0",
        "late = 0", "gone 1 = STATE", "count 3 = 3");
  }

  private static void moveEdges() {
    sentence("LATEST of an ORDER becomes a PERIOD: what it was; BAD", "text 1a@5 = 1", "move 0 0 = 5", "move 0 11 = 0",
        "move 0 12 = BAD", "move 0 -1 = BAD", "move 0 HIGH = BAD", "move 0 LOW = BAD", "of 0 2 = 11", "move 1 0 = BAD",
        "move -1 0 = BAD", "move 1 12 = BAD", "count 5 = 2");
    sentence("STATE: it is GONE", "text 1a@5;1a@5 = 2", "gone 0", "move 0 5 = STATE", "move 0 6 = STATE", "move 0 12 = BAD",
        "move 1 6 = 5", "undo = 1", "undo = 0", "move 0 6 = 5");
    sentence("NOT: it is PROMISED, and all that are couldn't be MET then", "supply 0 3 5", "text 5a@5;5a@5 = 2", "promise 0",
        "move 0 2 = NOT", "of 0 2 = 5", "move 0 3 = 5", "move 0 2 = NOT", "move 1 2 = 5", "move 1 0 = 2", "of 0 2 = 3",
        "count 5 = 5");
    sentence("NOT by another that couldn't be MET then", "supply 0 3 5", "supply 0 6 2", "text 5a@3;2a@9 = 2", "promise 0",
        "promise 1", "move 1 6 = 9", "move 1 5 = NOT", "move 1 3 = NOT", "late = 0", "supply 0 3 7", "move 1 3 = 6");
    sentence("NOT while all that are can't be MET, to where it is, too", "supply 0 3 5", "supply 1 0 1",
        "text 5a@3;1b@1 = 2",
        "promise 0", "promise 1", "supply 0 3 4", "move 1 1 = NOT", "move 1 0 = NOT", "move 1 11 = NOT", "move 0 11 = NOT",
        "supply 0 11 1", "move 1 1 = NOT", "move 0 11 = 3", "late = 0", "move 1 1 = 1");
    sentence("SHARES don't matter for move()", "supply 0 0 5", "text 5a@3 = 1", "promise 0", "share 0 0", "move 0 0 = 3",
        "move 0 1 = 0");
    sentence("move() to what is so already is a CHANGE", "text 1a@5 = 1", "move 0 5 = 5", "count 5 = 1", "undo = 0",
        "of 0 2 = 5",
        "move 0 5 = 5", "count 6 = 0", "supply 0 0 1", "promise 0", "move 0 5 = 5", "count 5 = 4");
  }

  private static void swapEdges() {
    sentence("Two PROMISED ORDERS change LATEST: 1", "supply 0 0 5", "text 2a@3;3a@7 = 2", "promiseAll", "swap 0 1 = 1",
        "of 0 2 = 7", "of 1 2 = 3", "swap 1 0 = 1", "of 0 2 = 3", "of 1 2 = 7", "count 5 = 4");
    sentence("BAD (one and the same, too)", "supply 0 0 5", "text 2a@3;3a@7;1a@0 = 3", "promise 0", "promise 1",
        "swap 0 0 = BAD",
        "swap 2 2 = BAD", "swap 3 3 = BAD", "swap 0 3 = BAD", "swap 3 0 = BAD", "swap -1 0 = BAD", "swap 0 -1 = BAD",
        "swap -1 -1 = BAD", "swap 2 3 = BAD", "swap -1 2 = BAD", "swap HIGH 0 = BAD", "swap 0 LOW = BAD", "count 5 = 3");
    sentence("STATE: one isn't PROMISED", "supply 0 0 5", "text 2a@3;3a@7;1a@0;1a@9 = 4", "promise 0", "promise 1", "gone 3",
        "swap 0 2 = STATE", "swap 2 0 = STATE", "swap 0 3 = STATE", "swap 3 0 = STATE", "swap 2 3 = STATE", "swap 0 1 = 1");
    sentence("NOT: all that are PROMISED couldn't be MET then", "supply 0 1 2", "supply 0 5 3", "text 2a@1;3a@5 = 2",
        "promiseAll",
        "swap 0 1 = NOT", "swap 1 0 = NOT", "of 0 2 = 1", "of 1 2 = 5", "supply 0 1 3", "supply 0 5 2", "swap 0 1 = 1",
        "of 0 2 = 5", "of 1 2 = 1", "late = 0");
    sentence("NOT while they can't be MET; swapped, if they can be then", "supply 0 1 3", "supply 0 5 3",
        "text 2a@1;3a@5 = 2",
        "promiseAll = 2", "supply 0 1 2", "swap 0 1 = NOT", "supply 0 5 2", "late = 1", "swap 0 1 = NOT", "supply 0 5 3",
        "supply 0 1 1", "late = 1", "swap 0 1 = NOT", "late = 1");
    sentence("swap() makes MET what wasn't", "supply 0 1 3", "supply 1 4 3", "text 3ab@1;3a@4 = 2", "promise 0",
        "supply 0 4 3",
        "promise 1", "supply 0 4 0", "late = 1", "swap 0 1 = 1", "late = 0");
    sentence("swap() to what is so already is a CHANGE; SHARES don't matter", "supply 0 0 5", "text 2a@3;3a@3 = 2",
        "promiseAll",
        "share 0 0", "swap 0 1 = 1", "count 5 = 4", "undo = 3", "of 0 2 = 3", "swap 0 1 = 1", "count 6 = 0", "count 5 = 4");
  }

  // ---- changes, the image

  private static void changesEdges() {
    sentence("CHANGES: each of them is one", "supply 0 0 9", "count 5 = 1", "share 0 99", "count 5 = 2",
        "text 1a@0;1a@3;1a@0 = 3",
        "count 5 = 2", "promise 0", "count 5 = 3", "promiseAll = 2", "count 5 = 4", "giveUp 0", "count 5 = 5", "gone 0",
        "count 5 = 6", "move 2 5", "count 5 = 7", "swap 1 2 = 1", "count 5 = 8", "row 0 1", "from 0 0 1 0 = 1",
        "count 5 = 9",
        "put 0 0 4", "lefts 0 0", "image", "feed 49", "count 5 = 9", "count 6 = 0");
    sentence("telling the same is one, too", "supply 0 0 0 = 0", "count 5 = 1", "share 0 100 = 100", "count 5 = 2",
        "supply 0 0 0 = 0",
        "count 5 = 3", "undo = 2", "undo = 1", "undo = 0", "undo = STATE", "redo = 2");
    sentence("calls that are refused are none: what may be DONE AGAIN is still", "supply 0 0 5", "supply 0 0 6",
        "text 5a@0;9a@0;1a@0 = 3", "promise 0", "gone 2", "share 0 1", "undo = 4", "count 6 = 1", "supply 0 0 100 = BAD",
        "share 0 101 = BAD", "promise 1 = NOT", "promise 0 = STATE", "giveUp 1 = STATE", "gone 2 = STATE",
        "move 2 0 = STATE",
        "swap 0 1 = STATE", "swap 0 0 = BAD", "from 0 0 0 0 = NOTHING", "text 0a@0 = -100", "count 5 = 4", "count 6 = 1",
        "redo = 0", "group 0 0 = 1");
    sentence("12 at most are kept", join(each(1, 12, "supply 0 0 #"), lines("count 5 = 12"), each(11, 0, "undo = #"),
        lines("supplied 0 0 = 0", "undo = STATE", "count 6 = 12"), each(11, 0, "redo = #"), lines("supplied 0 0 = 12",
        "redo = STATE", "count 5 = 12")));
    sentence("12 at most are kept: of 13 the first can't be UNDONE any more", join(each(1, 13, "supply 0 0 #"), lines("count 5 = 12"),
        each(11, 0, "undo = #"), lines("supplied 0 0 = 1", "undo = STATE"), each(11, 0, "redo = #"),
        lines("supplied 0 0 = 13", "redo = STATE")));
    sentence("12 at most are kept: of 30", join(each(1, 30, "supply 0 0 #"), lines("count 5 = 12"), each(11, 0, "undo = #"),
        lines("supplied 0 0 = 18", "undo = STATE", "count 6 = 12", "redo = 11", "supply 0 0 50 = 19", "count 6 = 0",
        "count 5 = 2", "redo = STATE", "undo = 1", "undo = 0", "supplied 0 0 = 18", "undo = STATE")));
    sentence("12 at most, some UNDONE and other ones behind: still 12 at most", join(each(1, 12, "supply 0 0 #"), times(3, "undo"),
        lines("count 5 = 9", "count 6 = 3"), each(21, 24, "supply 0 0 #"), lines("count 5 = 12", "count 6 = 0"),
        times(12, "undo"), lines("supplied 0 0 = 1", "undo = STATE")));
    sentence("DONE AGAIN (as long as no other came behind)", "supply 0 0 1", "supply 0 0 2", "supply 0 0 3", "undo = 2",
        "undo = 1",
        "redo = 1", "supplied 0 0 = 2", "count 6 = 1", "share 3 100 = 100", "count 6 = 0", "redo = STATE", "count 5 = 3",
        "undo = 2", "supplied 0 0 = 2", "undo = 1", "supplied 0 0 = 1");
    sentence("DONE AGAIN: ORDERS that come are no CHANGE", "supply 0 0 1", "undo = 0", "text 1a@0 = 1", "count 6 = 1",
        "redo = 0",
        "supplied 0 0 = 1", "count 0 = 1");
    sentence("DONE AGAIN behind calls that ask, rows, an image", "supply 0 0 1", "text 1a@0;1a@0 = 2", "promise 0",
        "undo = 1",
        "image = 0", "row 0 1", "put 0 0 3", "lefts 0 0 = 1", "feed 49", "hinders 0 0 = NOT", "could 0 0 = 0",
        "filled 0 = 1",
        "late = 0", "redo = 0", "of 0 5 = 1");
  }

  private static void undoEdges() {
    sentence("UNDONE, the latest first", "supply 0 0 1", "share 1 7", "supply 2 11 3", "undo = 2", "supplied 2 11 = 0",
        "group 1 0 = 7", "undo = 1", "group 1 0 = 100", "supplied 0 0 = 1", "undo = 0", "supplied 0 0 = 0", "undo = STATE",
        "redo = 2", "supplied 0 0 = 1", "redo = 1", "group 1 0 = 7", "redo = 0", "supplied 2 11 = 3", "redo = STATE");
    sentence("each kind of CHANGE is UNDONE and DONE AGAIN", "supply 0 0 9", "text 1a@0;2a@3;3a@5 = 3", "promise 0",
        "promiseAll",
        "giveUp 0", "gone 0", "move 1 9", "swap 1 2", "undo", "of 1 2 = 9", "of 2 2 = 5", "undo", "of 1 2 = 3", "undo",
        "of 0 5 = 0", "undo", "of 0 5 = 1", "undo", "count 2 = 1", "undo", "count 2 = 0", "undo = 0", "redo = 6",
        "redo = 5", "of 0 5 = 1", "redo = 4", "count 2 = 3", "redo = 3", "of 0 5 = 0", "redo = 2", "of 0 5 = 2", "redo = 1",
        "of 1 2 = 9", "redo = 0", "of 1 2 = 5", "of 2 2 = 9");
    sentence("GONE ones that were PROMISED are PROMISED again", "supply 0 0 9", "text 1a@0;1a@0 = 2", "promise 0",
        "gone 0 = 0",
        "gone 1 = 0", "undo", "of 1 5 = 0", "undo", "of 0 5 = 1", "redo", "of 0 5 = 2");
    sentence("ORDERS that come stay", "text 1a@0 = 1", "undo = STATE", "supply 0 0 5", "text 2a@0 = 2", "undo = 0",
        "count 0 = 2",
        "undo = STATE", "of 1 0 = 2", "count 1 = 2");
    sentence("UNDONE: ORDERS that came since are as they were ahead of that CHANGE (ASKED, if nothing else was done to them)",
        "supply 0 0 9", "text 1a@1;1a@2;1a@3 = 3", "promise 0", "move 1 7", "gone 2", "text 1a@4 = 4", "undo = 3",
        "of 2 5 = 0",
        "of 3 5 = 0", "of 3 2 = 4", "of 1 2 = 7", "undo = 2", "of 1 2 = 2", "of 0 5 = 1", "undo = 1", "of 0 5 = 0",
        "undo = 0",
        "count 0 = 4", "count 1 = 4", "of 0 2 = 1", "of 1 2 = 2", "of 2 2 = 3", "of 3 2 = 4", "redo = 3", "redo = 2",
        "of 0 5 = 1", "redo = 1", "of 1 2 = 7", "redo = 0", "of 2 5 = 2", "of 3 5 = 0", "of 3 2 = 4");
    sentence("LATEST of ORDERS that came since: as it was ahead of that CHANGE", "text 1a@3 = 1", "move 0 8 = 3", "undo = 0",
        "of 0 2 = 3", "redo = 0", "of 0 2 = 8", "text 1a@5;1a@6 = 3", "move 2 0 = 6", "undo = 1", "of 2 2 = 6", "of 0 2 = 8",
        "undo = 0", "of 0 2 = 3", "of 1 2 = 5");
    sentence("LATEST of ORDERS that came since a CHANGE told while there were none", "share 0 9 = 100", "text 1a@3 = 1",
        "move 0 8 = 3", "undo = 1", "of 0 2 = 3", "gone 0 = 0", "undo = 1", "of 0 2 = 3", "of 0 5 = 0", "undo = 0",
        "of 0 2 = 3");
    sentence("ORDERS that came between UNDONE and DONE AGAIN stay ASKED", "supply 0 0 9", "text 1a@1 = 1",
        "promiseAll = 1", "undo",
        "text 1a@2;1a@3 = 3", "redo = 0", "count 2 = 1", "of 1 5 = 0", "of 2 5 = 0", "of 1 2 = 2", "promiseAll = 2",
        "undo = 2",
        "of 0 5 = 1", "of 1 5 = 0", "of 2 5 = 0");
    sentence("what was done to ORDERS more than 12 CHANGES ago stays", join(lines("supply 0 0 9", "text 1a@1;1a@2;1a@3 = 3",
        "promise 0", "move 1 8", "gone 2"), times(12, "share 0 100"), times(11, "undo"), lines("undo = 0", "undo = STATE",
        "of 0 5 = 1", "of 1 2 = 8", "of 2 5 = 2", "supplied 0 0 = 9")));
    sentence("LATE, KEPT, LEFT are asked anew behind undo(), redo()", "supply 0 0 5", "text 5a@0 = 1", "promise 0",
        "supply 0 0 4",
        "late = 1", "undo", "late = 0", "keeps = 0", "left 10000 = 0", "redo", "late = 1", "keeps = ", "left 10000 = -1");
    sentence("all that are PROMISED may be LATE behind undo(): it is not refused", "supply 0 0 4", "supply 0 0 5",
        "text 5a@0 = 1",
        "promise 0", "giveUp 0", "undo = 3", "late = 0", "undo = 2", "undo = 1", "redo = 2", "redo = 1", "count 2 = 1");
  }

  private static void imageEdges() {
    sentence("STATE: there is none", "back = STATE", "supply 0 0 1", "undo = 0", "back = STATE", "count 6 = 1", "image = 0",
        "back = 0", "count 6 = 0");
    sentence("AN IMAGE keeps all SUPPLIES, SHARES, and what each ORDER is, LATEST too", "supply 0 0 9", "supply 2 11 4",
        "share 3 60",
        "share 0 70", "text 1a@1;1a@2;1a@3;1a@4 = 4", "promise 0", "gone 1", "move 2 8", "image = 1", "supply 0 0 1",
        "supply 2 11 2", "supply 1 5 3", "share 3 1", "share 0 80", "gone 0", "move 2 3", "promise 3 = 1", "move 3 9",
        "back = 1", "supplied 0 0 = 9", "supplied 2 11 = 4", "supplied 1 5 = 0", "group 3 0 = 60", "group 0 0 = 70",
        "of 0 5 = 1", "of 1 5 = 2", "of 2 5 = 0", "of 3 5 = 0", "of 0 2 = 1", "of 2 2 = 8", "of 3 2 = 4", "count 7 = 13");
    sentence("ORDERS that came since are ASKED behind it", "supply 0 0 9", "text 1a@1;1a@2 = 2", "promise 0", "image = 1",
        "text 2a@3;2a@4;2a@5 = 5", "promise 2", "gone 3", "promise 1", "back = 1", "count 0 = 5", "of 0 5 = 1", "of 1 5 = 0",
        "of 2 5 = 0", "of 3 5 = 0", "of 4 5 = 0", "of 2 2 = 3", "of 3 2 = 4", "of 3 0 = 2", "count 1 = 4", "promise 3 = 2");
    sentence("an image of no ORDERS", "image = 0", "supply 0 0 9", "text 1a@1;1a@2 = 2", "promiseAll = 2", "back = 0",
        "count 1 = 2", "count 7 = 0", "promise 0 = NOT", "of 0 2 = 1", "of 1 2 = 2");
    sentence("(there are no CHANGES then)", "supply 0 0 1", "supply 0 0 2", "supply 0 0 3", "image = 0", "undo = 2",
        "count 5 = 2",
        "count 6 = 1", "back = 0", "count 5 = 0", "count 6 = 0", "undo = STATE", "redo = STATE", "supplied 0 0 = 3",
        "supply 0 0 4 = 3", "count 5 = 1", "undo = 0", "supplied 0 0 = 3", "undo = STATE", "redo = 0", "supplied 0 0 = 4");
    sentence("image() is no CHANGE, and keeps CHANGES", "supply 0 0 1", "supply 0 0 2", "undo = 1", "image = 0",
        "count 5 = 1",
        "count 6 = 1", "redo = 0", "supplied 0 0 = 2", "undo = 1", "undo = 0", "supplied 0 0 = 0", "back = 0",
        "supplied 0 0 = 1");
    sentence("It is laid back as often as one likes; a newer image takes its place", "supply 0 0 1", "image = 0",
        "supply 0 0 2",
        "back = 0", "supplied 0 0 = 1", "supply 0 0 3", "back = 0", "supplied 0 0 = 1", "supply 0 0 4", "image = 0",
        "supply 0 0 5", "back = 0", "supplied 0 0 = 4", "back = 0", "supplied 0 0 = 4");
    sentence("how many are PROMISED: LATE ones, too", "supply 0 0 5", "text 3a@0;2a@0 = 2", "promiseAll", "supply 0 0 3",
        "image = 2", "supply 0 0 5", "late = 0", "gone 0", "back = 2", "late = 1", "keeps = 0", "of 1 6 = 1");
    sentence("CHANGES behind an image that is laid back are UNDONE to it", "supply 0 0 9", "text 1a@1;1a@2 = 2", "promise 0",
        "image = 1", "promise 1", "text 1a@3 = 3", "back = 1", "promise 2 = 2", "move 2 9", "undo = 1", "of 2 2 = 3",
        "undo = 0",
        "of 2 5 = 0", "of 0 5 = 1", "of 1 5 = 0", "undo = STATE");
    sentence("THE TAPE, SHELVES and ORDERS stay behind back()", "image = 0", "row 0 2", "put 0 1 6", "text 1a@1 = 1",
        "tape 2b@2 = 4",
        "back = 0", "shelf 0 = 0 6", "count 0 = 1", "count 4 = 4", "orders = 2", "of 1 0 = 2");
  }

  private static void countEdges() {
    sentence("count(): How many", "supply 0 0 9", "supply 2 11 5", "text 1a@0;2a@0;3a@0;4a@0;5a@0 = 5", "promise 0",
        "promise 3",
        "gone 4", "share 0 5", "undo", "tape xyz", "count 0 = 5", "count 1 = 2", "count 2 = 2", "count 3 = 1", "count 4 = 3",
        "count 5 = 5", "count 6 = 1", "count 7 = 14", "count 8 = 5", "count 9 = BAD", "count -1 = BAD", "count HIGH = BAD",
        "count LOW = BAD");
    sentence("what: just inside, just outside", "supply 0 0 1", "text 1a@0 = 1", "of 0 -1 = BAD", "of 0 0 = 1", "of 0 6 = 0",
        "of 0 7 = BAD", "of 0 HIGH = BAD", "of 0 LOW = BAD", "group 0 -1 = BAD", "group 0 0 = 100", "group 0 2 = 0",
        "group 0 3 = BAD", "group 0 HIGH = BAD", "group 0 LOW = BAD", "filled -1 = BAD", "filled 1 = 1", "filled 2 = BAD",
        "could 0 HIGH = BAD", "could 0 LOW = BAD", "range 0 0 0 HIGH = BAD", "range 0 0 0 LOW = BAD");
  }

  // ---- refusals, arguments

  /** Five ORDERS: 0 ASKED, 1 PROMISED, 2 LATE, 3 GONE, 4 ASKED; a ROW, an image, something DONE and UNDONE, a TAPE. */
  private static final String[] RICH = {"supply 0 0 5", "supply 2 2 20", "text 6a@2;5ab@4g1r3;9c@2g1r9;4abc@11;12b@11g2 = 5",
      "promise 1", "image", "promise 2", "gone 3", "row 0 3", "put 0 0 7", "put 0 2 100", "row 2 0", "supply 2 2 5",
        "share 2 50",
      "undo", "tape 6a@"};

  private static void rich(String title, String... lines) {
    sentence(title, join(RICH, lines));
  }

  private static void refusedEdges() {
    rich("BAD (-1) ahead of STATE (-5)", "move 3 12 = BAD", "move 3 -1 = BAD", "swap 0 5 = BAD", "swap 5 0 = BAD",
        "swap 0 0 = BAD",
        "hinders 1 1 = BAD", "hinders 1 -2 = BAD", "could 3 2 = BAD", "range 0 3 0 0 = BAD", "range 0 0 12 0 = BAD",
        "range 0 0 0 2 = BAD", "range 5 0 0 0 = BAD", "hinders 1 0 = STATE", "could 3 0 = STATE", "range 0 0 0 0 = STATE",
        "move 3 11 = STATE", "swap 0 1 = STATE");
    rich("BAD ahead of NOT (-2)", "range 1 3 0 0 = BAD", "range 1 0 0 2 = BAD", "range 1 0 0 0 = NOT", "kept -2 = BAD",
        "kept 9 = NOT", "ledger 5 99 = BAD", "ledger 0 -2 = BAD", "ledger 0 99 = NOT", "move 1 12 = BAD", "move 1 11 = NOT",
        "swap 1 1 = BAD", "swap 1 2 = NOT", "could 0 2 = BAD", "could 0 0 = NOT", "hinders 0 1 = BAD", "promise 5 = BAD",
        "promise 0 = NOT");
    rich("STATE ahead of NOT", "promise 1 = STATE", "promise 3 = STATE", "swap 0 1 = STATE", "swap 1 3 = STATE",
        "move 3 0 = STATE",
        "could 3 1 = STATE", "range 0 0 0 0 = STATE", "range 3 0 0 0 = STATE", "hinders 1 -1 = STATE", "giveUp 0 = STATE",
        "giveUp 3 = STATE", "gone 3 = STATE", "why 1 = STATE", "why 0 = STATE", "why 3 = STATE", "why 2 = 3");
    rich("BAD ahead of LONG (-7), of FULL (-3)", "orders = -103", "text 1a@0;1a@0;1a@0;1a@0;1a@0;1a@0;1a@0 = 12",
        "filled 2 = BAD",
        "filled -1 = BAD", "filled 0 = LONG", "tape " + "1".repeat(100) + " = 100", "feed 127 = BAD", "feed 31 = BAD",
        "feed 49 = FULL", "count 4 = 100");
    rich("-11 to -14 behind BAD; NOTHING ahead of PLACE", "row 4 -1 = BAD", "row 3 -1 = SIZE", "row 3 25 = BAD",
        "put 4 0 1 = BAD",
        "put -1 -1 1 = BAD", "put 1 -1 1 = NOTHING", "put 1 0 1 = NOTHING", "put 0 -1 1 = PLACE", "put 0 3 1 = PLACE",
        "put 2 0 1 = PLACE", "from 4 -1 0 0 = BAD", "from 1 0 3 0 = BAD", "from 0 -1 0 12 = BAD", "from 1 -1 0 0 = NOTHING",
        "from 0 -1 0 0 = PLACE", "lefts 4 -1 = BAD", "lefts 1 -1 = NOTHING", "lefts 0 -1 = PLACE", "get 1 0 = MIN",
        "get 0 3 = MIN", "get 4 0 = MIN");
    rich("What is answered so changes nothing, but THE TAPE, where it is said", "supply 3 0 1 = BAD", "supply 0 12 1 = BAD",
        "supply 0 0 100 = BAD", "share 4 0 = BAD", "share 0 101 = BAD", "promise 0 = NOT", "promise 4 = NOT",
        "move 1 0 = NOT",
        "move 2 2 = NOT", "swap 2 1 = NOT", "count 4 = 3", "count 5 = 6", "count 6 = 1", "orders = -103", "count 4 = 0",
        "count 5 = 6", "count 6 = 1", "count 0 = 5", "redo = 0", "group 2 0 = 50", "redo = STATE", "undo = 6");
    rich("undo(), redo(), back(): STATE: none", "undo = 5", "undo = 4", "undo = 3", "undo = 2", "undo = 1", "undo = 0",
        "undo = STATE", "count 6 = 7", "redo = 6", "redo = 5", "redo = 4", "redo = 3", "redo = 2", "redo = 1",
        "redo = 0", "redo = STATE", "back = 1",
        "undo = STATE", "redo = STATE", "count 4 = 3");
  }

  /** Calls by their arguments: o an ORDER, i an ITEM, p a PERIOD, g a GROUP, s a SHELF, or the least and the most. */
  private static final String[] ARGUMENTS = {"supply i p 0..99", "supplied i p", "share g 0..100", "group g 0..2",
        "feed 32..126",
      "of o 0..6", "promise o", "giveUp o", "gone o", "move o p", "swap o o", "hinders o -1..0", "could o 0..1",
      "spare 1..7 p", "filled 0..1", "range o i p 0..1", "kept -1..HIGH", "why o", "ledger o -1..HIGH", "row s LOW..24",
      "from s LOW..HIGH i p", "lefts s LOW..HIGH", "count 0..8"};

  private static void argumentEdges() {
    for (String call : ARGUMENTS) {
      String[] words = call.split(" ");
      for (int at = 1; at < words.length; at++) {
        long[] bounds = boundsOf(words[at]);
        sentence(call + ": argument " + at + " just outside", join(RICH, outside(words, at, bounds)));
        inside(words, at, bounds[0]);
        inside(words, at, bounds[1]);
      }
    }
  }

  private static long[] boundsOf(String word) {
    switch (word) {
      case "o": return new long[] {0, 4};
      case "i": return new long[] {0, 2};
      case "p": return new long[] {0, 11};
      case "g": case "s": return new long[] {0, 3};
      default:
        int dots = word.indexOf("..");
        return new long[] {Long.parseLong(plain(word.substring(0, dots))), Long.parseLong(plain(word.substring(dots + 2)))};
    }
  }

  /** A call with one argument told, the others just inside, two that are swapped not alike. */
  private static String withArgument(String[] words, int at, long value) {
    StringBuilder s = new StringBuilder(words[0]);
    for (int i = 1; i < words.length; i++) {
      long other = words[0].equals("swap") ? 1 - Math.max(0, Math.min(1, value)) : Math.max(0, boundsOf(words[i])[0]);
      s.append(' ').append(i == at ? value : other);
    }
    return s.toString();
  }

  private static String[] outside(String[] words, int at, long[] bounds) {
    List<String> lines = new ArrayList<>();
    for (long value : new long[] {bounds[0] - 1, Integer.MIN_VALUE}) {
      if (value < bounds[0] && value >= Integer.MIN_VALUE) lines.add(withArgument(words, at, value) + " = BAD");
    }
    for (long value : new long[] {bounds[1] + 1, Integer.MAX_VALUE}) {
      if (value > bounds[1] && value <= Integer.MAX_VALUE) lines.add(withArgument(words, at, value) + " = BAD");
    }
    return lines.toArray(new String[0]);
  }

  private static void inside(String[] words, int at, long value) {
    Used x = new Used();
    for (String line : RICH) run(x, line.contains(" = ") ? line.substring(0, line.indexOf(" = ")) : line);
    String call = withArgument(words, at, value);
    answers++;
    if (run(x, call).equals("-1")) fail(call + " answered BAD");
  }
}
