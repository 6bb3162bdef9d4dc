import java.math.BigInteger;
import java.util.ArrayList;
import java.util.Comparator;
import java.util.List;
import java.util.regex.Matcher;
import java.util.regex.Pattern;
import java.util.stream.IntStream;

/** The document once more, as literally and as slowly as possible, for RandomRunsTest to compare with. */
public final class Reference {
  private static final int NONE = -1;

  private record Kind(int window, int shortWindow, int quota) {
  }

  private record Season(int kind, int first, int last, int minimum, int price) {
  }

  private static final class Site {
    int kind;
    Integer closedUntil;
  }

  private static final class Booking {
    int kind;
    int arrival;
    int departure;
    int cost;
    int state;
    int site = NONE;

    boolean active() {
      return state == 0 || state == 1;
    }
  }

  private static final class Request {
    int kind;
    int arrival;
    int nights;
    int state;
    int booking = NONE;
  }

  private static final class World {
    int day;
    List<Kind> kinds = new ArrayList<>();
    List<Site> sites = new ArrayList<>();
    List<Season> seasons = new ArrayList<>();
    List<Booking> bookings = new ArrayList<>();
    List<Request> requests = new ArrayList<>();

    World copy() {
      World w = new World();
      w.day = day;
      w.kinds.addAll(kinds);
      w.seasons.addAll(seasons);
      for (Site s : sites) {
        Site t = new Site();
        t.kind = s.kind;
        t.closedUntil = s.closedUntil;
        w.sites.add(t);
      }
      for (Booking b : bookings) {
        Booking c = new Booking();
        c.kind = b.kind;
        c.arrival = b.arrival;
        c.departure = b.departure;
        c.cost = b.cost;
        c.state = b.state;
        c.site = b.site;
        w.bookings.add(c);
      }
      for (Request r : requests) {
        Request q = new Request();
        q.kind = r.kind;
        q.arrival = r.arrival;
        q.nights = r.nights;
        q.state = r.state;
        q.booking = r.booking;
        w.requests.add(q);
      }
      return w;
    }
  }

  private World w = new World();
  private final World[] slots = new World[2];
  private String text = "";
  private int code = 0;
  private int position = NONE;

  private static void index(int i, List<?> list) {
    if (i < 0 || i >= list.size()) {
      throw new IndexOutOfBoundsException();
    }
  }

  private static void argument(boolean good) {
    if (!good) {
      throw new IllegalArgumentException();
    }
  }

  private static void state(boolean good) {
    if (!good) {
      throw new IllegalStateException();
    }
  }

  private static boolean in(long value, long low, long high) {
    return low <= value && value <= high;
  }

  public int addClass(int window, int shortWindow, int quota) {
    argument(in(window, 1, 200) && in(shortWindow, 0, window) && in(quota, 0, 16));
    state(w.kinds.size() < 4);
    w.kinds.add(new Kind(window, shortWindow, quota));
    return w.kinds.size() - 1;
  }

  public int addSite(int kind) {
    index(kind, w.kinds);
    state(w.sites.size() < 16);
    Site s = new Site();
    s.kind = kind;
    w.sites.add(s);
    return w.sites.size() - 1;
  }

  public int addSeason(int kind, int first, int last, int minimum, int price) {
    index(kind, w.kinds);
    argument(in(first, 0, 999) && in(last, first, 999) && in(minimum, 1, 14) && in(price, 0, 9999));
    state(w.seasons.size() < 12);
    w.seasons.add(new Season(kind, first, last, minimum, price));
    return w.seasons.size() - 1;
  }

  public int classCount() {
    return w.kinds.size();
  }

  public int siteCount() {
    return w.sites.size();
  }

  public int classOf(int site) {
    index(site, w.sites);
    return w.sites.get(site).kind;
  }

  private Season season(int kind, long day) {
    Season found = new Season(kind, 0, 999, 1, 20);
    for (Season s : w.seasons) {
      if (s.kind == kind && in(day, s.first, s.last)) {
        found = s;
      }
    }
    return found;
  }

  public int minimum(int kind, int day) {
    index(kind, w.kinds);
    argument(in(day, 0, 999));
    return season(kind, day).minimum;
  }

  public int price(int kind, int day) {
    index(kind, w.kinds);
    argument(in(day, 0, 999));
    return season(kind, day).price;
  }

  public int capacity(int kind, int night) {
    index(kind, w.kinds);
    return (int) cap(kind, night);
  }

  private long cap(int kind, long night) {
    if (night < w.day || night > 998) {
      return 0;
    }
    return w.sites.stream().filter(s -> s.kind == kind && (s.closedUntil == null || night >= s.closedUntil)).count();
  }

  private long rel(int kind, long night) {
    Kind k = w.kinds.get(kind);
    if (night < w.day || night > 998) {
      return 0;
    }
    if (night <= w.day + (long) k.shortWindow) {
      return cap(kind, night);
    }
    if (night <= w.day + (long) k.window) {
      return Math.min(k.quota, cap(kind, night));
    }
    return 0;
  }

  private long tak(int kind, long night) {
    return w.bookings.stream().filter(b -> b.kind == kind && b.active() && in(night, b.arrival, b.departure - 1L)).count();
  }

  private long ava(int kind, long night) {
    return night < w.day || night > 998 ? 0 : Math.max(0, rel(kind, night) - tak(kind, night));
  }

  public int released(int kind, int night) {
    index(kind, w.kinds);
    return (int) rel(kind, night);
  }

  public int taken(int kind, int night) {
    index(kind, w.kinds);
    return (int) tak(kind, night);
  }

  public int available(int kind, int night) {
    index(kind, w.kinds);
    return (int) ava(kind, night);
  }

  private int obs(int kind, long a, long n) {
    for (long night = a; night < a + n; night++) {
      if (a < w.day || night > w.day + (long) w.kinds.get(kind).window || night > 998) {
        return 1;
      }
    }
    for (long night = a; night < a + n; night++) {
      if (ava(kind, night) == 0) {
        return 2;
      }
    }
    boolean gap = ava(kind, a - 1) == 0 && ava(kind, a + n) == 0;
    return n < season(kind, a).minimum && !gap ? 3 : 0;
  }

  public int obstacle(int kind, int arrival, int nights) {
    index(kind, w.kinds);
    argument(in(nights, 1, 28));
    return obs(kind, arrival, nights);
  }

  public int longestStay(int kind, int arrival) {
    index(kind, w.kinds);
    return IntStream.rangeClosed(1, 28).filter(n -> obs(kind, arrival, n) == 0).max().orElse(0);
  }

  private int sum(int kind, int from, int to) {
    return IntStream.range(from, to).map(d -> season(kind, d).price).sum();
  }

  public int cheapestArrival(int kind, int nights, int first, int last) {
    index(kind, w.kinds);
    argument(in(nights, 1, 28) && in(first, 0, 999) && in(last, first, 999));
    return IntStream.rangeClosed(first, last).filter(d -> obs(kind, d, nights) == 0).boxed()
        .min(Comparator.comparing((Integer d) -> sum(kind, d, d + nights)).thenComparing(d -> d)).orElse(NONE);
  }

  public int nextGap(int kind, int from) {
    index(kind, w.kinds);
    argument(in(from, 0, 999));
    return IntStream.rangeClosed(from, 999).filter(d -> ava(kind, d) > 0 && ava(kind, d - 1) == 0).findFirst()
        .orElse(NONE);
  }

  private int add(int kind, int arrival, int nights) {
    Booking b = new Booking();
    b.kind = kind;
    b.arrival = arrival;
    b.departure = arrival + nights;
    b.cost = sum(kind, arrival, arrival + nights);
    w.bookings.add(b);
    return w.bookings.size() - 1;
  }

  public int book(int kind, int arrival, int nights) {
    index(kind, w.kinds);
    argument(in(nights, 1, 28));
    state(obs(kind, arrival, nights) == 0 && w.bookings.size() < 60);
    return add(kind, arrival, nights);
  }

  public int bookingCount() {
    return w.bookings.size();
  }

  private Booking booking(int b) {
    index(b, w.bookings);
    return w.bookings.get(b);
  }

  public int bookingState(int b) {
    return booking(b).state;
  }

  public int bookingClass(int b) {
    return booking(b).kind;
  }

  public int arrival(int b) {
    return booking(b).arrival;
  }

  public int departure(int b) {
    return booking(b).departure;
  }

  public int cost(int b) {
    return booking(b).cost;
  }

  public int siteOf(int b) {
    Booking x = booking(b);
    return x.state == 1 || x.state == 2 ? x.site : NONE;
  }

  public int cancel(int b) {
    Booking x = booking(b);
    state(x.state == 0);
    int ahead = x.arrival - w.day;
    int refund = ahead >= 14 ? x.cost : ahead >= 3 ? x.cost / 2 : 0;
    x.cost -= refund;
    x.state = 3;
    return refund;
  }

  private boolean vacant(int site) {
    Integer until = w.sites.get(site).closedUntil;
    return (until == null || w.day >= until) && w.bookings.stream().noneMatch(b -> b.state == 1 && b.site == site);
  }

  public int vacantSite(int kind) {
    index(kind, w.kinds);
    return IntStream.range(0, w.sites.size()).filter(s -> w.sites.get(s).kind == kind && vacant(s)).findFirst()
        .orElse(NONE);
  }

  public int checkIn(int b, int site) {
    Booking x = booking(b);
    if (site != NONE) {
      index(site, w.sites);
      argument(w.sites.get(site).kind == x.kind);
    }
    state(x.state == 0 && x.arrival == w.day);
    int given = site == NONE ? vacantSite(x.kind) : site;
    state(vacant(given));
    x.site = given;
    x.state = 1;
    return given;
  }

  public int move(int b, int site) {
    Booking x = booking(b);
    index(site, w.sites);
    argument(w.sites.get(site).kind == x.kind);
    state(x.state == 1 && vacant(site));
    int previous = x.site;
    x.site = site;
    return previous;
  }

  public int departEarly(int b) {
    Booking x = booking(b);
    state(x.state == 1);
    int refund = Math.min(x.cost, sum(x.kind, w.day + 1, x.departure) / 2);
    x.state = 2;
    x.departure = w.day == x.arrival ? w.day + 1 : w.day;
    x.cost -= refund;
    return refund;
  }

  public int extend(int b, int nights) {
    Booking x = booking(b);
    argument(in(nights, 1, 28));
    int o = obs(x.kind, x.departure, nights);
    state(x.active() && o != 1 && o != 2);
    int more = sum(x.kind, x.departure, x.departure + nights);
    x.departure += nights;
    x.cost += more;
    return more;
  }

  public int endDays(int days) {
    argument(in(days, 1, 60));
    state(w.day + days <= 999);
    for (int i = 0; i < days; i++) {
      w.bookings.stream().filter(b -> b.state == 0 && b.arrival <= w.day).forEach(b -> b.state = 4);
      w.day++;
      w.bookings.stream().filter(b -> b.state == 1 && b.departure == w.day).forEach(b -> b.state = 2);
      w.sites.stream().filter(s -> s.closedUntil != null && s.closedUntil == w.day).forEach(s -> s.closedUntil = null);
      w.requests.stream().filter(r -> r.state == 0 && r.arrival < w.day).forEach(r -> r.state = 3);
    }
    return w.day;
  }

  public int today() {
    return w.day;
  }

  public void close(int site, int until) {
    index(site, w.sites);
    argument(in(until, w.day + 1, 999));
    Site s = w.sites.get(site);
    state(s.closedUntil == null);
    state(w.bookings.stream().noneMatch(b -> b.state == 1 && b.site == site));
    state(IntStream.range(w.day, until).allMatch(d -> cap(s.kind, d) > tak(s.kind, d)));
    s.closedUntil = until;
  }

  public int open(int site) {
    index(site, w.sites);
    Site s = w.sites.get(site);
    state(s.closedUntil != null);
    int until = s.closedUntil;
    s.closedUntil = null;
    return until;
  }

  public int request(int kind, int arrival, int nights) {
    index(kind, w.kinds);
    argument(in(arrival, w.day, 998) && in(nights, 1, 28));
    state(w.requests.size() < 20);
    Request r = new Request();
    r.kind = kind;
    r.arrival = arrival;
    r.nights = nights;
    w.requests.add(r);
    return w.requests.size() - 1;
  }

  private Request asked(int r) {
    index(r, w.requests);
    return w.requests.get(r);
  }

  public int requestState(int r) {
    return asked(r).state;
  }

  public int bookingOf(int r) {
    Request q = asked(r);
    return q.state == 1 ? q.booking : NONE;
  }

  public void withdraw(int r) {
    Request q = asked(r);
    state(q.state == 0);
    q.state = 2;
  }

  public int fill(int kind) {
    index(kind, w.kinds);
    int filled = 0;
    while (w.bookings.size() < 60) {
      Request best = w.requests.stream()
          .filter(r -> r.kind == kind && r.state == 0 && obs(kind, r.arrival, r.nights) == 0)
          .min(Comparator.comparing((Request r) -> -r.nights).thenComparing(r -> r.arrival)
              .thenComparing(r -> w.requests.indexOf(r)))
          .orElse(null);
      if (best == null) {
        break;
      }
      best.booking = add(kind, best.arrival, best.nights);
      best.state = 1;
      filled++;
    }
    return filled;
  }

  /** The stays at each site, in the order in which the plan places them. */
  private List<List<Booking>> plan(int kind, int policy) {
    List<List<Booking>> stays = new ArrayList<>();
    for (int s = 0; s < w.sites.size(); s++) {
      stays.add(new ArrayList<>());
    }
    w.bookings.stream().filter(b -> b.kind == kind && b.state == 1).forEach(b -> stays.get(b.site).add(b));
    List<Booking> waiting = new ArrayList<>(w.bookings.stream().filter(b -> b.kind == kind && b.state == 0).toList());
    waiting.sort(Comparator.comparing(b -> b.arrival));
    for (Booking b : waiting) {
      List<Integer> free = IntStream.range(0, w.sites.size()).filter(s -> w.sites.get(s).kind == kind)
          .filter(s -> w.sites.get(s).closedUntil == null || w.sites.get(s).closedUntil <= b.arrival)
          .filter(s -> stays.get(s).stream().noneMatch(o -> o.departure > b.arrival)).boxed().toList();
      Comparator<Integer> latest = Comparator
          .comparing(s -> -stays.get(s).stream().mapToInt(o -> o.departure).max().orElse(-1));
      int site = policy == 0 ? free.get(0) : free.stream().min(latest.thenComparing(s -> s)).orElseThrow();
      stays.get(site).add(b);
    }
    return stays;
  }

  public int planSite(int b, int policy) {
    Booking x = booking(b);
    argument(in(policy, 0, 1));
    state(x.active());
    List<List<Booking>> stays = plan(x.kind, policy);
    return IntStream.range(0, stays.size()).filter(s -> stays.get(s).contains(x)).findFirst().orElse(NONE);
  }

  private int between(int kind, int policy, boolean orphansOnly) {
    int nights = 0;
    for (List<Booking> stays : plan(kind, policy)) {
      stays.sort(Comparator.comparing(b -> b.arrival));
      for (int i = 1; i < stays.size(); i++) {
        int from = stays.get(i - 1).departure;
        int gap = stays.get(i).arrival - from;
        if (!orphansOnly || gap < season(kind, from).minimum) {
          nights += gap;
        }
      }
    }
    return nights;
  }

  public int gapNights(int kind, int policy) {
    index(kind, w.kinds);
    argument(in(policy, 0, 1));
    return between(kind, policy, false);
  }

  public int orphanNights(int kind, int policy) {
    index(kind, w.kinds);
    argument(in(policy, 0, 1));
    return between(kind, policy, true);
  }

  private int[] occupancy(int kind, int first, int last) {
    index(kind, w.kinds);
    argument(in(first, w.day, 998) && in(last, first, 998));
    long over = IntStream.rangeClosed(first, last).mapToLong(d -> tak(kind, d)).sum();
    long under = IntStream.rangeClosed(first, last).mapToLong(d -> cap(kind, d)).sum();
    if (over == 0) {
      return new int[] {0, 1};
    }
    long g = BigInteger.valueOf(over).gcd(BigInteger.valueOf(under)).longValue();
    return new int[] {(int) (over / g), (int) (under / g)};
  }

  public int occupancyNumerator(int kind, int first, int last) {
    return occupancy(kind, first, last)[0];
  }

  public int occupancyDenominator(int kind, int first, int last) {
    return occupancy(kind, first, last)[1];
  }

  public int expected(int kind, int day, boolean departing) {
    if (kind != NONE) {
      index(kind, w.kinds);
    }
    argument(in(day, 0, 999));
    return (int) w.bookings.stream().filter(b -> kind == NONE || b.kind == kind)
        .filter(b -> departing ? b.active() && b.departure == day : b.state == 0 && b.arrival == day).count();
  }

  public int dearestBooking(int kind) {
    index(kind, w.kinds);
    int best = NONE;
    for (int b = w.bookings.size() - 1; b >= 0; b--) {
      Booking x = w.bookings.get(b);
      if (x.kind == kind && x.active() && (best == NONE || !less(x, w.bookings.get(best)))) {
        best = b;
      }
    }
    return best;
  }

  private static boolean less(Booking a, Booking b) {
    return BigInteger.valueOf(a.cost).multiply(BigInteger.valueOf(b.departure - b.arrival))
        .compareTo(BigInteger.valueOf(b.cost).multiply(BigInteger.valueOf(a.departure - a.arrival))) < 0;
  }

  public int busiestNight(int kind, int first, int last) {
    index(kind, w.kinds);
    argument(in(first, w.day, 998) && in(last, first, 998));
    return IntStream.rangeClosed(first, last).boxed()
        .min(Comparator.comparing((Integer d) -> -tak(kind, d)).thenComparing(d -> d)).orElseThrow();
  }

  public int revenue() {
    return w.bookings.stream().mapToInt(b -> b.cost).sum();
  }

  public int appendText(int four) {
    state(text.length() + 4 <= 500);
    for (int i = 3; i >= 0; i--) {
      text += (char) (four >>> 8 * i & 255);
    }
    return text.length();
  }

  public int truncateText(int length) {
    argument(in(length, 0, text.length()));
    text = text.substring(0, length);
    return length;
  }

  private static final class Wrong extends Exception {
    private static final long serialVersionUID = 1L;
    final int code;

    Wrong(int code) {
      this.code = code;
    }
  }

  private Matcher tokens;
  private boolean more;

  private void next() {
    more = tokens.find();
  }

  private boolean at(String pattern) {
    return more && tokens.group().matches(pattern);
  }

  private int number(long low, long high) throws Wrong {
    if (!at("[0-9]+")) {
      throw new Wrong(1);
    }
    BigInteger value = new BigInteger(tokens.group());
    if (value.compareTo(BigInteger.valueOf(low)) < 0 || value.compareTo(BigInteger.valueOf(high)) > 0) {
      throw new Wrong(2);
    }
    next();
    return value.intValueExact();
  }

  private void statement(World made) throws Wrong {
    if (at("class")) {
      if (made.kinds.size() == 4) {
        throw new Wrong(3);
      }
      next();
      int window = number(1, 200);
      int shortWindow = number(0, window);
      made.kinds.add(new Kind(window, shortWindow, number(0, 16)));
    } else if (at("site")) {
      next();
      do {
        if (made.sites.size() == 16 && at("[0-9]+") && new BigInteger(tokens.group()).bitLength() < 31
            && Integer.parseInt(tokens.group()) < made.kinds.size()) {
          throw new Wrong(3);
        }
        Site s = new Site();
        s.kind = number(0, made.kinds.size() - 1);
        made.sites.add(s);
      } while (at("[0-9]+"));
    } else if (at("season")) {
      if (made.seasons.size() == 12) {
        throw new Wrong(3);
      }
      next();
      int kind = number(0, made.kinds.size() - 1);
      int first = number(0, 999);
      int last = number(first, 999);
      int minimum = number(1, 14);
      made.seasons.add(new Season(kind, first, last, minimum, number(0, 9999)));
    } else if (at("day")) {
      next();
      made.day = number(0, 999);
    } else {
      throw new Wrong(1);
    }
    if (!at(";")) {
      throw new Wrong(1);
    }
    next();
  }

  public int load() {
    tokens = Pattern.compile("[a-z]+|[0-9]+|[^ \n]", Pattern.DOTALL).matcher(text);
    World made = new World();
    int statements = 0;
    try {
      next();
      while (more) {
        statement(made);
        statements++;
      }
      w = made;
      code = 0;
      position = NONE;
    } catch (Wrong e) {
      statements = NONE;
      code = e.code;
      position = more ? tokens.start() : text.length();
    }
    text = "";
    return statements;
  }

  public int errorCode() {
    return code;
  }

  public int errorPosition() {
    return position;
  }

  public void save(int slot) {
    argument(in(slot, 0, 1));
    slots[slot] = w.copy();
  }

  public void restore(int slot) {
    argument(in(slot, 0, 1));
    state(slots[slot] != null);
    w = slots[slot].copy();
  }
}
