/** Requests, and promises 36 to 40, sentence by sentence. */
final class RequestsBoundaries {
  private static final int NONE = Campground.NONE;

  private RequestsBoundaries() {
  }

  @Says(at = "REQUESTS", words = "There are at most 20 requests, numbered from 0.")
  static void mostRequests() {
    Campground x = Due.made("class 50 50 9; site 0;");
    for (int r = 0; r < 20; r++) {
      Due.same("request", x.request(0, 2 * r, 1), r);
    }
    Due.thrown("a 21st request", x, Due.STATE, () -> x.request(0, 0, 1));
    x.withdraw(0);
    Due.thrown("also after a withdrawal", x, Due.STATE, () -> x.request(0, 0, 1));
    Due.same("all the others are booked", x.fill(0), 19);
    Due.thrown("also after a filling", x, Due.STATE, () -> x.request(0, 0, 1));
    x.endDays(60);
    Due.thrown("also when all is over", x, Due.STATE, () -> x.request(0, 60, 1));
  }

  @Says(at = "REQUESTS", words = "A request is a stay of a class that is WAITING (0, at first), BOOKED (1), WITHDRAWN (2) "
      + "or EXPIRED (3).")
  static void oneOfEachState() {
    Campground x = Due.made("class 50 50 9; site 0;");
    x.request(0, 0, 1);
    Due.same("WAITING at first", x.requestState(0), 0);
    Campground each = oneOfEach();
    for (int r = 0; r < 4; r++) {
      Due.same("state of " + r, each.requestState(r), r);
    }
  }

  @Says(at = "Promise 36", words = "`arrival`: the arrival day, present day to 998")
  static void requestArrival() {
    for (int day : new int[] {0, 500, 998}) {
      Edges.range("arrival", "class 9 9 9; day " + day + ";", day, 998, (x, arrival) -> x.request(0, arrival, 1));
    }
    Campground last = Due.made("class 9 9 9; day 999;");
    for (int arrival : new int[] {998, 999, 1000}) {
      Due.thrown("on day 999, arrival " + arrival, last, Due.ARGUMENT, () -> last.request(0, arrival, 1));
    }
    Campground x = Due.made("class 9 9 9; site 0; day 998;");
    x.request(0, 998, 1);
    Due.same("the last night of all is booked", x.fill(0), 1);
  }

  @Says(at = "Promise 36", words = "`nights`: 1 to 28")
  static void requestNights() {
    Campground x = Due.made("class 50 50 9; site 0;");
    x.request(0, 0, 1);
    x.request(0, 1, 28);
    Due.same("fill", x.fill(0), 2);
    Due.same("28 nights", x.departure(0), 29);
    Due.same("1 night", x.departure(1), 1);
    Due.thrown("0 nights", x, Due.ARGUMENT, () -> x.request(0, 0, 0));
    Due.thrown("29 nights", x, Due.ARGUMENT, () -> x.request(0, 0, 29));
    Due.same("beyond the last night", x.request(0, 998, 28), 2);
  }

  @Says(at = "Promise 36", words = "Throws `IndexOutOfBoundsException` if there is no such class")
  static void requestNoClass() {
    Edges.noSuchClass("request", (x, c) -> x.request(c, 0, 1));
    Campground full = twentyRequests();
    Due.thrown("also if all else is wrong", full, Due.INDEX, () -> full.request(1, -1, 0));
  }

  @Says(at = "Promise 36", words = "Throws `IllegalArgumentException` if arrival or nights is out of range")
  static void wrongRequest() {
    for (int[] w : new int[][] {{-1, 1}, {999, 1}, {0, 0}, {0, 29}, {Edges.MIN, 1}, {Edges.MAX, 28}, {0, Edges.MIN},
        {0, Edges.MAX}, {-1, 0}}) {
      Campground x = Due.made("class 50 50 9;");
      Due.thrown("wrong argument", x, Due.ARGUMENT, () -> x.request(0, w[0], w[1]));
      Campground full = twentyRequests();
      Due.thrown("also if there are 20", full, Due.ARGUMENT, () -> full.request(0, w[0], w[1]));
    }
    Campground later = Due.made("class 50 50 9; day 10;");
    Due.thrown("yesterday", later, Due.ARGUMENT, () -> later.request(0, 9, 1));
  }

  @Says(at = "Promise 36", words = "Throws `IllegalStateException` if there are 20 requests")
  static void twentyOneRequests() {
    Campground x = Due.made("class 50 50 9; class 50 50 9;");
    for (int r = 0; r < 19; r++) {
      x.request(0, 5, 1);
    }
    Due.same("the 20th", x.request(0, 5, 1), 19);
    Due.thrown("the 21st", x, Due.STATE, () -> x.request(0, 5, 1));
    Due.thrown("the 21st, of the other class", x, Due.STATE, () -> x.request(1, 5, 1));
  }

  @Says(at = "Promise 37", words = "Returns 0 WAITING, 1 BOOKED, 2 WITHDRAWN, 3 EXPIRED.")
  static void requestState() {
    Campground x = oneOfEach();
    for (int r = 0; r < 4; r++) {
      Due.same("requestState", x.requestState(r), r);
    }
  }

  @Says(at = "Promise 37", words = "Throws `IndexOutOfBoundsException` if there is no such request")
  static void stateOfNoRequest() {
    Edges.noSuchRequest("requestState", (x, r) -> x.requestState(r));
  }

  @Says(at = "Promise 38", words = "Returns the number of its booking; NONE if it is not BOOKED.")
  static void bookingOf() {
    Campground x = oneOfEach();
    Due.same("WAITING", x.bookingOf(0), NONE);
    Due.same("BOOKED", x.bookingOf(1), 0);
    Due.same("WITHDRAWN", x.bookingOf(2), NONE);
    Due.same("EXPIRED", x.bookingOf(3), NONE);
    Campground last = Due.made("class 90 90 9; site 0;");
    for (int b = 0; b < 59; b++) {
      last.book(0, b, 1);
    }
    last.request(0, 59, 1);
    last.fill(0);
    Due.same("the last booking", last.bookingOf(0), 59);
  }

  @Says(at = "Promise 38", words = "Throws `IndexOutOfBoundsException` if there is no such request")
  static void bookingOfNoRequest() {
    Edges.noSuchRequest("bookingOf", (x, r) -> x.bookingOf(r));
  }

  @Says(at = "Promise 39", words = "Throws `IndexOutOfBoundsException` if there is no such request")
  static void withdrawNoRequest() {
    Edges.noSuchRequest("withdraw", (x, r) -> x.withdraw(r));
  }

  @Says(at = "Promise 39", words = "Throws `IllegalStateException` if it is not WAITING")
  static void withdrawRefused() {
    Campground x = oneOfEach();
    for (int r = 1; r < 4; r++) {
      int number = r;
      Due.thrown("in state " + r, x, Due.STATE, () -> x.withdraw(number));
    }
    x.withdraw(0);
    Due.same("a WAITING one", x.requestState(0), 2);
    Due.thrown("the same one again", x, Due.STATE, () -> x.withdraw(0));
  }

  @Says(at = "Promise 40", words = "Books waiting requests of a class: of those without an obstacle the one with the most "
      + "nights, of equal ones the one with the earliest arrival day, then the lowest number; and again, as long as "
      + "there is one and there are fewer than 60 bookings.")
  static void fill() {
    Campground x = Due.made("class 50 50 9; class 50 50 9; site 0 1;");
    x.request(0, 10, 2);       // 0: overlaps 2 and 3
    x.request(1, 10, 9);       // 1: the other class
    x.request(0, 11, 3);       // 2: as long as 3, but later
    x.request(0, 9, 3);        // 3
    x.request(0, 9, 3);        // 4: as 3, but a greater number
    x.request(0, 45, 7);       // 5: WINDOW
    x.request(0, 44, 7);       // 6: to the window's end
    x.request(0, 12, 1);       // 7: just behind 3
    Due.same("fill", x.fill(0), 3);
    int[] booked = {NONE, NONE, NONE, 1, NONE, NONE, 0, 2};
    for (int r = 0; r < booked.length; r++) {
      Due.same("booking of " + r, x.bookingOf(r), booked[r]);
    }
    Due.same("nothing is left for it", x.fill(0), 0);
    Due.same("the other class", x.fill(1), 1);
    Due.same("its booking", x.bookingOf(1), 3);
  }

  @Says(at = "Promise 40", words = "Returns the number of requests that are booked.")
  static void filledNumber() {
    Due.same("no request", Due.made("class 50 50 9; site 0;").fill(0), 0);
    Campground none = twentyRequests();
    Due.same("no site", none.fill(0), 0);
    Due.same("all are waiting", none.requestState(19), 0);
    for (int bookings : new int[] {57, 58, 59, 60}) {
      Campground x = Due.made("class 90 90 9; site 0;");
      for (int b = 0; b < bookings; b++) {
        x.book(0, b, 1);
      }
      for (int r = 0; r < 3; r++) {
        x.request(0, 70 + r, 1);
      }
      Due.same("up to 60 bookings from " + bookings, x.fill(0), 60 - bookings);
      Due.same("bookings then", x.bookingCount(), 60);
      Due.same("the last request", x.requestState(2), bookings == 57 ? 1 : 0);
    }
    Campground all = Due.made("class 90 90 9; site 0;");
    for (int r = 0; r < 20; r++) {
      all.request(0, r, 1);
    }
    Due.same("all twenty", all.fill(0), 20);
  }

  @Says(at = "Promise 40", words = "Throws `IndexOutOfBoundsException` if there is no such class")
  static void fillNoClass() {
    Edges.noSuchClass("fill", (x, c) -> x.fill(c));
  }

  /** Requests whose number is their state, on day 1. */
  private static Campground oneOfEach() {
    Campground x = Due.made("class 50 50 9; site 0;");
    x.request(0, 5, 28);
    x.request(0, 7, 1);
    x.request(0, 9, 1);
    x.request(0, 0, 1);
    x.withdraw(2);
    x.close(0, 7);
    x.fill(0);
    x.endDays(1);
    return x;
  }

  private static Campground twentyRequests() {
    Campground x = Due.made("class 50 50 9;");
    for (int r = 0; r < 20; r++) {
      x.request(0, 5, 1);
    }
    return x;
  }
}
