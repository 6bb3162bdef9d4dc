/** Promises 36 to 40: requests. */
public final class RequestsTest {
  public static void main(String[] args) {
    request();
    states();
    withdraw();
    fillOrder();
    fillAgain();
    fillLimits();
    Due.end();
  }

  private static void request() {
    Campground x = Due.made("class 20 20 1; day 5;");
    Due.thrown("no such class", x, Due.INDEX, () -> x.request(1, 5, 1));
    Due.thrown("class -1", x, Due.INDEX, () -> x.request(-1, 5, 1));
    int[][] wrong = {{4, 1}, {-1, 1}, {999, 1}, {Integer.MIN_VALUE, 1}, {Integer.MAX_VALUE, 1}, {5, 0}, {5, 29},
        {5, Integer.MIN_VALUE}};
    for (int[] w : wrong) {
      Due.thrown("request out of range", x, Due.ARGUMENT, () -> x.request(0, w[0], w[1]));
      Due.thrown("both wrong", x, Due.INDEX, () -> x.request(1, w[0], w[1]));
    }
    Due.same("today", x.request(0, 5, 1), 0);
    Due.same("the last night, whatever it means", x.request(0, 998, 28), 1);
    for (int r = 2; r < 20; r++) {
      Due.same("request", x.request(0, 50, 28), r);
    }
    Due.thrown("a 21st request", x, Due.STATE, () -> x.request(0, 5, 1));
    Due.thrown("a wrong 21st request", x, Due.ARGUMENT, () -> x.request(0, 4, 1));
    x.withdraw(3);
    Due.thrown("withdrawn ones count too", x, Due.STATE, () -> x.request(0, 5, 1));
    Campground end = Due.made("class 20 20 1; site 0; day 999;");
    Due.thrown("nothing on the last day", end, Due.ARGUMENT, () -> end.request(0, 999, 1));
    Due.thrown("nor before it", end, Due.ARGUMENT, () -> end.request(0, 998, 1));
  }

  private static void states() {
    Campground x = Due.made("class 20 20 1; site 0;");
    x.request(0, 3, 2);
    Due.same("WAITING", x.requestState(0), 0);
    Due.same("no booking yet", x.bookingOf(0), -1);
    x.book(0, 0, 1);
    Due.same("fill", x.fill(0), 1);
    Due.same("BOOKED", x.requestState(0), 1);
    Due.same("its booking", x.bookingOf(0), 1);
    Due.same("arrival", x.arrival(1), 3);
    Due.same("departure", x.departure(1), 5);
    Due.same("cost", x.cost(1), 40);
    Due.same("class", x.bookingClass(1), 0);
    Due.same("state", x.bookingState(1), 0);
    x.cancel(1);
    x.endDays(9);
    Due.same("BOOKED for ever", x.requestState(0), 1);
    Due.same("its booking for ever", x.bookingOf(0), 1);
    for (int r : new int[] {-1, 1, 20, Integer.MIN_VALUE, Integer.MAX_VALUE}) {
      Due.thrown("requestState", x, Due.INDEX, () -> x.requestState(r));
      Due.thrown("bookingOf", x, Due.INDEX, () -> x.bookingOf(r));
      Due.thrown("withdraw", x, Due.INDEX, () -> x.withdraw(r));
    }
  }

  private static void withdraw() {
    Campground x = Due.made("class 20 20 1; site 0;");
    x.request(0, 3, 2);
    x.request(0, 3, 1);
    x.request(0, 4, 1);
    x.withdraw(0);
    Due.same("WITHDRAWN", x.requestState(0), 2);
    Due.same("no booking", x.bookingOf(0), -1);
    Due.thrown("twice", x, Due.STATE, () -> x.withdraw(0));
    Due.same("fill leaves it out", x.fill(0), 2);
    Due.same("the other one is BOOKED", x.requestState(1), 1);
    Due.thrown("a BOOKED one", x, Due.STATE, () -> x.withdraw(1));
    x.request(0, 3, 1);
    x.endDays(4);
    Due.same("EXPIRED", x.requestState(3), 3);
    Due.same("no booking", x.bookingOf(3), -1);
    Due.thrown("an EXPIRED one", x, Due.STATE, () -> x.withdraw(3));
  }

  private static void fillOrder() {
    Campground x = Due.made("class 20 20 1; class 20 20 1; site 0;");
    x.request(0, 6, 2);
    x.request(0, 5, 3);
    x.request(0, 4, 3);
    x.request(0, 4, 3);
    x.request(1, 4, 9);
    x.request(0, 10, 1);
    x.request(0, 9, 1);
    x.request(0, 15, 28);
    Due.same("class 1 has no site", x.fill(1), 0);
    Due.same("fill(0)", x.fill(0), 3);
    int[] bookings = {-1, -1, 0, -1, -1, 2, 1, -1};
    for (int r = 0; r < bookings.length; r++) {
      Due.same("bookingOf(" + r + ")", x.bookingOf(r), bookings[r]);
      Due.same("requestState(" + r + ")", x.requestState(r), bookings[r] < 0 ? 0 : 1);
    }
    Due.same("nothing more", x.fill(0), 0);
    x.cancel(0);
    Due.same("after a cancelling", x.fill(0), 1);
    Due.same("the lowest number of the rest", x.bookingOf(3), 3);
    Due.thrown("no such class", x, Due.INDEX, () -> x.fill(2));
    Due.thrown("class -1", x, Due.INDEX, () -> x.fill(-1));
  }

  private static void fillAgain() {
    // The one-night stay is too short until the longer ones have made a gap for it.
    Campground x = Due.made("class 20 20 1; site 0; season 0 4 4 3 10;");
    x.request(0, 4, 1);
    Due.same("too short", x.fill(0), 0);
    x.request(0, 5, 2);
    x.request(0, 1, 3);
    Due.same("all three", x.fill(0), 3);
    Due.same("the longest first", x.bookingOf(2), 0);
    Due.same("then the other one", x.bookingOf(1), 1);
    Due.same("then the gap", x.bookingOf(0), 2);
    Due.same("at the season's price", x.cost(2), 10);
  }

  private static void fillLimits() {
    Campground x = Due.made("class 100 100 1; site 0;");
    for (int b = 0; b < 58; b++) {
      x.book(0, b, 1);
    }
    for (int r = 0; r < 3; r++) {
      x.request(0, 70 + r, 1);
    }
    Due.same("60 bookings at most", x.fill(0), 2);
    Due.same("bookingCount", x.bookingCount(), 60);
    Due.same("the third waits", x.requestState(2), 0);
    Due.same("and again", x.fill(0), 0);

    Campground all = Due.made("class 100 100 1; site 0;");
    for (int r = 0; r < 20; r++) {
      all.request(0, 99 - r, 1);
    }
    Due.same("all twenty", all.fill(0), 20);
    Due.same("the earliest first", all.bookingOf(19), 0);
    Due.same("the latest last", all.bookingOf(0), 19);
  }
}
