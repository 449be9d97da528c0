import java.util.ArrayList;
import java.util.Arrays;
import java.util.List;
import java.util.regex.Pattern;

/** Long mixed runs of calls, each answer held against a slow model that goes by partings (flows) instead of STEPS. */
public final class ModelTest {
  private static int wrong = 0;
  private static int calls = 0;

  public static void main(String[] args) {
    int runs = args.length > 0 ? Integer.parseInt(args[0]) : 400;
    for (int run = 0; run < runs && wrong == 0; run++) new Run(run).go();
    for (String begin : new String[] {"", "1a@", "6c@3g2;60"}) texts(begin, 4);
    System.out.println(wrong == 0 ? calls + " answers are as the model's" : wrong + " answers are not as the model's");
    if (wrong != 0) System.exit(1);
  }

  private static final String[] PIECES = {"0", "7", "11", "61", "a", "cb", "@", "g", "g3", "g4", "r", "r9", ";", "x"};

  /** All texts that go on with a few pieces; each comes to an object of its own. */
  private static void texts(String begin, int more) {
    if (wrong != 0) return;
    new Run(0).tell(begin);
    for (int k = 0; k < PIECES.length && more > 0; k++) texts(begin + PIECES[k], more - 1);
  }

  /** One object, one model, the same calls to both. */
  private static final class Run {
    final int number;
    final PromiseMind mind = new PromiseMind();
    final Model model = new Model();
    final List<String> told = new ArrayList<>();
    final boolean wild;
    long seed;
    int left = 500;

    Run(int number) {
      this.number = number;
      this.seed = number * 7919L + 17;
      this.wild = number % 4 == 3;
    }

    int any(int bound) {
      seed = seed * 6364136223846793005L + 1442695040888963407L;
      return (int) ((seed >>> 33) % bound);
    }

    /** Mostly a number that may be, at times one beside. */
    int about(int bound) {
      return any(wild ? 8 : 40) == 0 ? any(bound + 6) - 3 : any(Math.max(1, bound));
    }

    void same(String call, long got, long want) {
      left--;
      calls++;
      told.add(call + " = " + got);
      if (got != want && wrong++ == 0) {
        for (String line : told) System.out.println(line);
        System.out.println("run " + number + ": " + call + " answered " + got + ", the model " + want);
      }
    }

    /** Mostly an ORDER of a kind, if there is one. */
    int orderOf(int kind) {
      List<Integer> set = model.all(kind);
      return set.isEmpty() || any(8) == 0 ? about(model.orders.size()) : set.get(any(set.size()));
    }

    void feed(String text) {
      for (int i = 0; i < text.length(); i++) {
        int c = text.charAt(i);
        same("feed(" + c + ")", mind.feed(c), model.feed(c));
      }
    }

    String line() {
      StringBuilder s = new StringBuilder();
      s.append(any(30) == 0 ? any(100) : 1 + any(25));
      String[] sets = {"a", "b", "c", "ab", "ac", "cb", "abc", "cba"};
      s.append(sets[any(sets.length)]).append('@').append(any(40) == 0 ? any(20) : any(12));
      if (any(2) == 0) s.append('g').append(any(40) == 0 ? any(10) : any(4));
      if (any(2) == 0) s.append('r').append(any(10));
      return s.toString();
    }

    void text() {
      StringBuilder s = new StringBuilder();
      int lines = 1 + any(4);
      for (int i = 0; i < lines; i++) {
        if (i > 0) s.append(';');
        s.append(line());
      }
      while (any(20) == 0 && s.length() < 110) s.append(';').append(line());
      if (any(4) == 0) {
        String signs = "0123456789abcdgr@; x";
        int place = any(s.length());
        char sign = signs.charAt(any(signs.length()));
        int how = any(4);
        if (how == 0) s.setCharAt(place, sign);
        else if (how == 1) s.insert(place, sign);
        else if (how == 2) s.setLength(place);
        else s.deleteCharAt(place);
      }
      feed(s.toString());
      same("orders() \"" + s + "\"", mind.orders(), model.orders());
    }

    void tell(String text) {
      feed(text);
      same("orders() \"" + text + "\"", mind.orders(), model.orders());
      for (int o = 0; o < model.orders.size(); o++) {
        for (int what = 0; what < 5; what++) same("of(" + o + ", " + what + ")", mind.of(o, what), model.of(o, what));
      }
    }

    void go() {
      int start = any(30);
      for (int i = 0; i < start; i++) supply();
      while (left > 0 && wrong == 0) step();
    }

    void supply() {
      int item = about(3), period = about(12), n = any(10) == 0 ? about(100) : any(16);
      same("supply(" + item + ", " + period + ", " + n + ")", mind.supply(item, period, n), model.supply(item, period, n));
    }

    /** SUPPLIES cut in some runs, so that some are LATE. */
    void cut() {
      int place = any(36), n = any(4);
      for (int k = 0; k < 36 && model.s[place] <= n; k++) place = (place + 1) % 36;
      if (number % 3 == 0) return;
      same("supply(" + place / 12 + ", " + place % 12 + ", " + n + ")", mind.supply(place / 12, place % 12, n),
          model.supply(place / 12, place % 12, n));
    }

    void step() {
      int n = model.orders.size();
      int o = about(n), what, i;
      switch (any(38)) {
        case 0: supply(); break;
        case 1: for (int k = 0; k < 4; k++) cut(); break;
        case 2: what = about(12); i = about(3);
          same("supplied(" + i + ", " + what + ")", mind.supplied(i, what), model.supplied(i, what)); break;
        case 3: if (any(2) == 0) break; what = about(4); i = any(3) == 0 ? about(101) : 100;
          same("share(" + what + ", " + i + ")", mind.share(what, i), model.share(what, i)); break;
        case 4: i = about(4); what = about(3);
          same("group(" + i + ", " + what + ")", mind.group(i, what), model.group(i, what)); break;
        case 5: if (any(3) == 0 || n < 4) text(); break;
        case 6: what = about(7); same("of(" + o + ", " + what + ")", mind.of(o, what), model.of(o, what)); break;
        case 7: case 8: case 9: o = orderOf(0); same("promise(" + o + ")", mind.promise(o), model.promise(o)); break;
        case 10: same("promiseAll()", mind.promiseAll(), model.promiseAll()); break;
        case 11: if (any(2) == 0) break; o = orderOf(1); same("giveUp(" + o + ")", mind.giveUp(o), model.giveUp(o)); break;
        case 12: if (any(4) == 0) same("gone(" + o + ")", mind.gone(o), model.gone(o)); break;
        case 13: what = about(12); same("move(" + o + ", " + what + ")", mind.move(o, what), model.move(o, what)); break;
        case 14: o = orderOf(1); i = orderOf(1); same("swap(" + o + ", " + i + ")", mind.swap(o, i), model.swap(o, i)); break;
        case 15: i = about(13) * 10000 + about(13) * 100 + about(13);
          same("left(" + i + ")", mind.left(i), model.left(i)); break;
        case 16: o = orderOf(0); what = any(12) == 0 ? any(5) - 3 : -any(2);
          same("hinders(" + o + ", " + what + ")", mind.hinders(o, what), model.hinders(o, what)); break;
        case 17: case 18: what = about(2);
          same("could(" + o + ", " + what + ")", mind.could(o, what), model.could(o, what)); break;
        case 19: what = about(8); i = about(12);
          same("spare(" + what + ", " + i + ")", mind.spare(what, i), model.spare(what, i)); break;
        case 20: what = about(2); same("filled(" + what + ")", mind.filled(what), model.filled(what)); break;
        case 21: case 22: case 23: ranges(orderOf(1)); break;
        default: stepOn(o);
      }
    }

    void ranges(int o) {
      for (int k = 0; k < 8; k++) {
        int item = about(3), period = about(12), what = about(2);
        if (any(4) != 0 && model.order(o)) {
          period = any(model.latest(o) + 1);
          while ((model.orders.get(o).items >> item & 1) == 0) item = any(3);
        }
        same("range(" + o + ", " + item + ", " + period + ", " + what + ")",
            mind.range(o, item, period, what), model.range(o, item, period, what));
      }
    }

    void stepOn(int o) {
      int what, i, p;
      long v;
      switch (any(13)) {
        case 0: same("late()", mind.late(), model.late()); break;
        case 1: i = any(6) - 1; same("kept(" + i + ")", mind.kept(i), model.kept(i)); break;
        case 2: i = -2 + any(26); same("kept(" + i + ")", mind.kept(i), model.kept(i)); break;
        case 3: o = orderOf(1); same("why(" + o + ")", mind.why(o), model.why(o)); break;
        case 4: for (int k = -2; k < 26; k += 1 + any(9)) {
            same("ledger(" + o + ", " + k + ")", mind.ledger(o, k), model.ledger(o, k));
          }
          break;
        case 5: what = about(4); i = any(5) == 0 ? any(34) - 5 : any(25);
          same("row(" + what + ", " + i + ")", mind.row(what, i), model.row(what, i)); break;
        case 6: for (int k = 0; k < 4; k++) {
            what = about(4); i = any(20) - 1;
            v = any(6) == 0 ? any(300) - 100 : any(20);
            same("put(" + what + ", " + i + ", " + v + ")", mind.put(what, i, v), model.put(what, i, v));
          }
          break;
        case 7: what = about(4); i = any(26) - 1;
          same("get(" + what + ", " + i + ")", mind.get(what, i), model.get(what, i)); break;
        case 8: what = about(4); i = any(8) == 0 ? any(28) - 2 : any(6); o = about(3); p = about(12);
          same("from(" + what + ", " + i + ", " + o + ", " + p + ")", mind.from(what, i, o, p), model.from(what, i, o, p));
          break;
        case 9: what = about(4); i = any(26) - 1;
          same("lefts(" + what + ", " + i + ")", mind.lefts(what, i), model.lefts(what, i));
          for (int k = 0; k < 24; k += 1 + any(8)) {
            same("get(" + what + ", " + k + ")", mind.get(what, k), model.get(what, k));
          }
          break;
        case 10: if (any(3) == 0) for (int k = any(5); k >= 0; k--) same("undo()", mind.undo(), model.undo()); break;
        case 11: if (any(2) == 0) for (int k = any(4); k >= 0; k--) same("redo()", mind.redo(), model.redo()); break;
        default:
          if (any(3) == 0) same("image()", mind.image(), model.image());
          else if (any(4) == 0) same("back()", mind.back(), model.back());
          what = about(9);
          same("count(" + what + ")", mind.count(what), model.count(what));
      }
      if (any(6) == 0) {
        for (int k = 0; k < 9; k++) same("count(" + k + ")", mind.count(k), model.count(k));
      }
    }
  }

  private static final class Order {
    int amount, items, told, group, rank;
  }

  /** All that CHANGES change, as one row of numbers: 36 SUPPLIES, 4 SHARES, 24 kinds, 24 LATEST. */
  private static final class Change {
    int[] before, after;
  }

  private static final class Model {
    static final int BAD = -1, NOT = -2, FULL = -3, STATE = -5, LONG = -7;
    final List<Order> orders = new ArrayList<>();
    int[] s = new int[36 + 4 + 24 + 24];
    int[] kept = null;
    int keptOrders;
    final List<Change> undo = new ArrayList<>(), redo = new ArrayList<>();
    final StringBuilder tape = new StringBuilder();
    final long[][] rows = new long[4][];
    int[] open;

    Model() {
      Arrays.fill(s, 36, 40, 100);
    }

    int kind(int o) { return s[40 + o]; }
    int latest(int o) { return s[64 + o]; }
    boolean order(int o) { return o >= 0 && o < orders.size(); }
    static boolean in(int n, int a, int b) { return a <= n && n <= b; }

    void begin() { open = s.clone(); }
    void end() {
      Change c = new Change();
      c.before = open;
      c.after = s.clone();
      undo.add(c);
      if (undo.size() > 12) undo.remove(0);
      redo.clear();
    }

    // A parting is a flow: out[o][p] of ORDER o from SUPPLY p.
    static int flow(int[] supply, int[] need, long[] may) {
      int n = need.length, got = 0;
      int[] freeSupply = supply.clone();
      int[][] out = new int[n][36];
      for (int o = 0; o < n; o++) {
        int open = need[o];
        while (open > 0) {
          int moved = augment(o, freeSupply, out, may, open);
          if (moved == 0) break;
          open -= moved;
          got += moved;
        }
      }
      return got;
    }

    static int augment(int first, int[] freeSupply, int[][] out, long[] may, int most) {
      int n = may.length;
      int[] fromOrder = new int[36];
      int[] fromSupply = new int[n];
      Arrays.fill(fromOrder, -1);
      Arrays.fill(fromSupply, -2);
      int[] queue = new int[n];
      int head = 0, tail = 0;
      queue[tail++] = first;
      fromSupply[first] = -1;
      while (head < tail) {
        int o = queue[head++];
        for (int p = 0; p < 36; p++) {
          if ((may[o] >> p & 1) == 0 || fromOrder[p] >= 0) continue;
          fromOrder[p] = o;
          if (freeSupply[p] > 0) return push(p, freeSupply, out, fromOrder, fromSupply, most);
          for (int u = 0; u < n; u++) {
            if (out[u][p] > 0 && fromSupply[u] == -2) {
              fromSupply[u] = p;
              queue[tail++] = u;
            }
          }
        }
      }
      return 0;
    }

    static int push(int end, int[] freeSupply, int[][] out, int[] fromOrder, int[] fromSupply, int most) {
      int amount = Math.min(most, freeSupply[end]);
      for (int p = end; ; ) {
        int o = fromOrder[p];
        if (fromSupply[o] < 0) break;
        p = fromSupply[o];
        amount = Math.min(amount, out[o][p]);
      }
      freeSupply[end] -= amount;
      for (int p = end; ; ) {
        int o = fromOrder[p];
        out[o][p] += amount;
        if (fromSupply[o] < 0) break;
        p = fromSupply[o];
        out[o][p] -= amount;
      }
      return amount;
    }

    static long may(int items, int latest) {
      long bits = 0;
      for (int i = 0; i < 3; i++) {
        for (int p = 0; p <= latest; p++) if ((items >> i & 1) != 0) bits |= 1L << (12 * i + p);
      }
      return bits;
    }

    int[] supplies() { return Arrays.copyOf(s, 36); }

    boolean met(List<Integer> set) { return met(set, 0, 0, 0); }

    /** Whether a set can be MET, an ORDER of items, latest, amount besides. */
    boolean met(List<Integer> set, int items, int latest, int amount) {
      int n = set.size();
      int[] need = new int[n + 1];
      long[] may = new long[n + 1];
      int sum = amount;
      for (int i = 0; i < n; i++) {
        need[i] = orders.get(set.get(i)).amount;
        may[i] = may(orders.get(set.get(i)).items, latest(set.get(i)));
        sum += need[i];
      }
      need[n] = amount;
      may[n] = may(items, latest);
      return flow(supplies(), need, may) == sum;
    }

    List<Integer> all(int kind) {
      List<Integer> set = new ArrayList<>();
      for (int o = 0; o < orders.size(); o++) if (kind(o) == kind) set.add(o);
      return set;
    }

    List<Integer> byRank(int kind) {
      List<Integer> set = all(kind);
      set.sort((x, y) -> orders.get(x).rank != orders.get(y).rank ? orders.get(y).rank - orders.get(x).rank : x - y);
      return set;
    }

    List<Integer> with(List<Integer> set, int o) {
      List<Integer> more = new ArrayList<>(set);
      more.add(o);
      return more;
    }

    int total() {
      int sum = 0;
      for (int i = 0; i < 36; i++) sum += s[i];
      return sum;
    }

    int cut(int g) { return total() * s[36 + g] / 100; }

    int sum(List<Integer> set, int g) {
      int sum = 0;
      for (int o : set) if (g < 0 || orders.get(o).group == g) sum += orders.get(o).amount;
      return sum;
    }

    boolean can(List<Integer> promised, int o) {
      List<Integer> more = with(promised, o);
      int g = orders.get(o).group;
      return met(more) && sum(more, g) <= cut(g);
    }

    int supply(int item, int period, int n) {
      if (!in(item, 0, 2) || !in(period, 0, 11) || !in(n, 0, 99)) return BAD;
      begin();
      int was = s[item * 12 + period];
      s[item * 12 + period] = n;
      end();
      return was;
    }

    int supplied(int item, int period) {
      return in(item, 0, 2) && in(period, 0, 11) ? s[item * 12 + period] : BAD;
    }

    int share(int g, int n) {
      if (!in(g, 0, 3) || !in(n, 0, 100)) return BAD;
      begin();
      int was = s[36 + g];
      s[36 + g] = n;
      end();
      return was;
    }

    int group(int g, int what) {
      if (!in(g, 0, 3) || !in(what, 0, 2)) return BAD;
      return what == 0 ? s[36 + g] : what == 1 ? cut(g) : sum(all(1), g);
    }

    int feed(int c) {
      if (!in(c, 32, 126)) return BAD;
      if (tape.length() == 100) return FULL;
      tape.append((char) c);
      return tape.length();
    }

    static final Pattern TEXT;
    static {
      String letters = "(abc|acb|bac|bca|cab|cba|ab|ac|ba|bc|ca|cb|a|b|c)";
      String line = "[0-9][0-9]?" + letters + "@[0-9][0-9]?(g[0-3])?(r[0-9])?";
      TEXT = Pattern.compile(line + "(;" + line + ")*");
    }
    static final String[] ENDS = {"", "1", "a@1", "b@1", "c@1", "@1", "1a@1"};

    static boolean goesOn(String begin) {
      for (String end : ENDS) if (TEXT.matcher(begin + end).matches()) return true;
      return false;
    }

    int orders() {
      String text = tape.toString();
      tape.setLength(0);
      int form = 0;
      while (form < text.length() && goesOn(text.substring(0, form + 1))) form++;
      if (form == text.length() && TEXT.matcher(text).matches()) form = Integer.MAX_VALUE;
      int fault = form;
      int begin = 0, line = orders.size();
      List<Order> come = new ArrayList<>();
      while (begin <= text.length() && begin <= form) {
        if (line >= 24) fault = Math.min(fault, begin);
        int end = text.indexOf(';', begin) < 0 ? text.length() : text.indexOf(';', begin);
        fault = Math.min(fault, number(text, begin, 1, 60));
        int at = text.indexOf('@', begin);
        if (at >= 0 && at < end && at < form) fault = Math.min(fault, number(text, at + 1, 0, 11));
        if (fault == Integer.MAX_VALUE) come.add(order(text.substring(begin, end)));
        begin = end + 1;
        line++;
      }
      if (fault < Integer.MAX_VALUE) return -100 - fault;
      for (Order o : come) {
        s[40 + orders.size()] = 0;
        s[64 + orders.size()] = o.told;
        orders.add(o);
      }
      return orders.size();
    }

    static int number(String text, int begin, int least, int most) {
      int end = begin;
      while (end < text.length() && end < begin + 2 && Character.isDigit(text.charAt(end))) end++;
      if (end == begin) return Integer.MAX_VALUE;
      return in(Integer.parseInt(text.substring(begin, end)), least, most) ? Integer.MAX_VALUE : begin;
    }

    static Order order(String line) {
      Order o = new Order();
      String[] halves = line.split("@");
      o.amount = Integer.parseInt(halves[0].replaceAll("[abc]", ""));
      for (int i = 0; i < 3; i++) if (halves[0].indexOf('a' + i) >= 0) o.items |= 1 << i;
      o.told = Integer.parseInt(halves[1].replaceAll("[gr].*", ""));
      if (halves[1].contains("g")) o.group = halves[1].charAt(halves[1].indexOf('g') + 1) - '0';
      if (halves[1].contains("r")) o.rank = halves[1].charAt(halves[1].indexOf('r') + 1) - '0';
      return o;
    }

    int of(int o, int what) {
      if (!order(o) || !in(what, 0, 6)) return BAD;
      Order x = orders.get(o);
      return new int[] {x.amount, x.items, latest(o), x.group, x.rank, kind(o), isLate(o) ? 1 : 0}[what];
    }

    int become(int o, int kind) {
      begin();
      s[40 + o] = kind;
      end();
      return all(1).size();
    }

    int promise(int o) {
      if (!order(o)) return BAD;
      if (kind(o) != 0) return STATE;
      return can(all(1), o) ? become(o, 1) : NOT;
    }

    int promiseAll() {
      begin();
      int n = 0;
      for (int o : byRank(0)) {
        if (can(all(1), o)) {
          s[40 + o] = 1;
          n++;
        }
      }
      end();
      return n;
    }

    int giveUp(int o) { return !order(o) ? BAD : kind(o) != 1 ? STATE : become(o, 0); }

    int gone(int o) { return !order(o) ? BAD : kind(o) == 2 ? STATE : become(o, 2); }

    int move(int o, int period) {
      if (!order(o) || !in(period, 0, 11)) return BAD;
      if (kind(o) == 2) return STATE;
      begin();
      int was = latest(o);
      s[64 + o] = period;
      if (kind(o) == 1 && !met(all(1))) {
        s = open;
        return NOT;
      }
      end();
      return was;
    }

    int swap(int o, int u) {
      if (!order(o) || !order(u) || o == u) return BAD;
      if (kind(o) != 1 || kind(u) != 1) return STATE;
      begin();
      s[64 + o] = open[64 + u];
      s[64 + u] = open[64 + o];
      if (!met(all(1))) {
        s = open;
        return NOT;
      }
      end();
      return 1;
    }

    int leftAt(List<Integer> set, int[] q) {
      int sum = 0;
      for (int i = 0; i < 3; i++) for (int p = 0; p <= q[i]; p++) sum += s[12 * i + p];
      for (int o : set) {
        boolean all = true;
        for (int i = 0; i < 3; i++) if ((orders.get(o).items >> i & 1) != 0 && latest(o) > q[i]) all = false;
        if (all) sum -= orders.get(o).amount;
      }
      return sum;
    }

    int left(int step) {
      if (step < 0) return -10000;
      int[] q = {step / 10000 - 1, step / 100 % 100 - 1, step % 100 - 1};
      for (int n : q) if (n > 11) return -10000;
      return leftAt(all(1), q);
    }

    /** The STEP as told, and what is LEFT at it. */
    int[] hinderedBy(List<Integer> set) {
      int[] best = {0, Integer.MAX_VALUE};
      for (int a = -1; a < 12; a++) for (int b = -1; b < 12; b++) for (int c = -1; c < 12; c++) {
        int n = leftAt(set, new int[] {a, b, c});
        if (n < best[1]) best = new int[] {(a + 1) * 10000 + (b + 1) * 100 + c + 1, n};
      }
      return best;
    }

    int hinders(int o, int part) {
      if (!order(o) || !in(part, -1, 0)) return BAD;
      if (kind(o) != 0) return STATE;
      if (met(with(all(1), o))) return NOT;
      int[] by = hinderedBy(with(all(1), o));
      return part == -1 ? by[0] : 100000 + by[1];
    }

    int could(int o, int what) {
      if (!order(o) || !in(what, 0, 1)) return BAD;
      if (kind(o) == 2) return STATE;
      List<Integer> others = all(1);
      others.remove((Integer) o);
      Order x = orders.get(o);
      if (what == 0) {
        for (int p = 0; p < 12; p++) {
          if (met(others, x.items, p, x.amount) && sum(others, x.group) + x.amount <= cut(x.group)) return p;
        }
        return NOT;
      }
      for (int n = 60; n > 0; n--) {
        if (met(others, x.items, latest(o), n) && sum(others, x.group) + n <= cut(x.group)) return n;
      }
      return NOT;
    }

    int spare(int items, int latest) {
      if (!in(items, 1, 7) || !in(latest, 0, 11)) return BAD;
      if (!met(all(1))) return 0;
      int n = 0;
      for (int step = 1 << 11; step > 0; step >>= 1) if (met(all(1), items, latest, n + step)) n += step;
      return n;
    }

    int filled(int what) {
      if (!in(what, 0, 1)) return BAD;
      List<Integer> asked = all(0);
      if (asked.size() > 8) return LONG;
      int best = 0, most = 0;
      for (int bits = 1; bits < 1 << asked.size(); bits++) {
        List<Integer> set = all(1);
        boolean[] taken = new boolean[4];
        int sum = 0;
        for (int i = 0; i < asked.size(); i++) {
          if ((bits >> i & 1) == 0) continue;
          set.add(asked.get(i));
          sum += orders.get(asked.get(i)).amount;
          taken[orders.get(asked.get(i)).group] = true;
        }
        boolean fine = sum > most;
        for (int g = 0; g < 4; g++) if (fine && taken[g] && sum(set, g) > cut(g)) fine = false;
        if (fine && met(set)) {
          best = bits;
          most = sum;
        }
      }
      return what == 0 ? best : most;
    }

    int range(int o, int item, int period, int what) {
      if (!order(o) || !in(item, 0, 2) || !in(period, 0, 11) || !in(what, 0, 1)) return BAD;
      if (kind(o) != 1) return STATE;
      List<Integer> set = all(1);
      if (!met(set)) return NOT;
      int p = 12 * item + period, least = -1, most = -1;
      for (int n = 0; n <= 60; n++) {
        if (!mayHave(set, o, p, n)) continue;
        if (least < 0) least = n;
        most = n;
      }
      return what == 0 ? least : most;
    }

    /** Whether there is a parting in which an ORDER has just n of a SUPPLY. */
    boolean mayHave(List<Integer> set, int o, int p, int n) {
      int[] supply = supplies();
      if (n > supply[p] || n > orders.get(o).amount) return false;
      if (n > 0 && (may(orders.get(o).items, latest(o)) >> p & 1) == 0) return false;
      supply[p] -= n;
      int[] need = new int[set.size()];
      long[] may = new long[set.size()];
      int sum = 0;
      for (int i = 0; i < set.size(); i++) {
        int u = set.get(i);
        need[i] = orders.get(u).amount - (u == o ? n : 0);
        may[i] = may(orders.get(u).items, latest(u)) & (u == o ? ~(1L << p) : -1L);
        sum += need[i];
      }
      return flow(supply, need, may) == sum;
    }

    List<Integer> kept() {
      List<Integer> set = new ArrayList<>();
      for (int o : byRank(1)) if (met(with(set, o))) set.add(o);
      return set;
    }

    boolean isLate(int o) { return kind(o) == 1 && !kept().contains(o); }

    int late() { return all(1).size() - kept().size(); }

    int kept(int i) {
      if (i < -1) return BAD;
      List<Integer> set = kept();
      return i == -1 ? set.size() : i < set.size() ? set.get(i) : NOT;
    }

    int why(int o) {
      if (!order(o)) return BAD;
      if (!isLate(o)) return STATE;
      List<Integer> set = new ArrayList<>();
      for (int u : byRank(1)) {
        if (u == o) return hinderedBy(with(set, o))[0];
        if (met(with(set, u))) set.add(u);
      }
      return STATE;
    }

    int ledger(int o, int i) {
      if (!order(o) || i < -1) return BAD;
      Order x = orders.get(o);
      String letters = new String[] {"", "a", "b", "ab", "c", "ac", "bc", "abc"}[x.items];
      String kind = isLate(o) ? "late" : new String[] {"asked", "promised", "gone"}[kind(o)];
      String line = o + ":" + x.amount + letters + "@" + latest(o) + "g" + x.group + "r" + x.rank + " " + kind;
      return i == -1 ? line.length() : i < line.length() ? line.charAt(i) : NOT;
    }

    int row(int shelf, int n) {
      if (!in(shelf, 0, 3) || n > 24) return BAD;
      if (n < 0) return -14;
      rows[shelf] = new long[n];
      return 1;
    }

    int put(int shelf, int i, long v) {
      if (!in(shelf, 0, 3)) return BAD;
      if (rows[shelf] == null) return -11;
      if (!in(i, 0, rows[shelf].length - 1)) return -13;
      rows[shelf][i] = v;
      return 1;
    }

    long get(int shelf, int i) {
      if (!in(shelf, 0, 3) || rows[shelf] == null || !in(i, 0, rows[shelf].length - 1)) return Long.MIN_VALUE;
      return rows[shelf][i];
    }

    int from(int shelf, int i, int item, int period) {
      if (!in(shelf, 0, 3) || !in(item, 0, 2) || !in(period, 0, 11)) return BAD;
      if (rows[shelf] == null) return -11;
      if (i < 0) return -13;
      begin();
      int n = 0;
      while (period + n < 12 && i + n < rows[shelf].length && rows[shelf][i + n] >= 0 && rows[shelf][i + n] <= 99) {
        s[12 * item + period + n] = (int) rows[shelf][i + n];
        n++;
      }
      end();
      return n;
    }

    int lefts(int shelf, int i) {
      if (!in(shelf, 0, 3)) return BAD;
      if (rows[shelf] == null) return -11;
      if (i < 0) return -13;
      int n = 0;
      for (int p = 0; p < 12 && i + p < rows[shelf].length; p++, n++) {
        rows[shelf][i + p] = leftAt(all(1), new int[] {p, p, p});
      }
      return n;
    }

    int undo() {
      if (undo.isEmpty()) return STATE;
      Change c = undo.remove(undo.size() - 1);
      for (int i = 0; i < s.length; i++) if (c.before[i] != c.after[i]) s[i] = c.before[i];
      redo.add(c);
      return undo.size();
    }

    int redo() {
      if (redo.isEmpty()) return STATE;
      Change c = redo.remove(redo.size() - 1);
      for (int i = 0; i < s.length; i++) if (c.before[i] != c.after[i]) s[i] = c.after[i];
      undo.add(c);
      return redo.size();
    }

    int image() {
      kept = s.clone();
      keptOrders = orders.size();
      return all(1).size();
    }

    int back() {
      if (kept == null) return STATE;
      for (int i = 0; i < s.length; i++) {
        boolean since = i >= 40 && (i - 40) % 24 >= keptOrders && (i - 40) % 24 < orders.size();
        if (!since) s[i] = kept[i];
        else if (i < 64) s[i] = 0;
      }
      undo.clear();
      redo.clear();
      return all(1).size();
    }

    int count(int what) {
      switch (what) {
        case 0: return orders.size();
        case 1: case 2: case 3: return all(what - 1).size();
        case 4: return tape.length();
        case 5: return undo.size();
        case 6: return redo.size();
        case 7: return total();
        case 8: return sum(all(1), -1);
        default: return BAD;
      }
    }
  }
}
