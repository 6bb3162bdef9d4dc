/** A campground with as much of everything as it can hold: no call may reach behind a row's end. */
public final class LimitsTest {
  public static void main(String[] args) {
    Campground x = Due.made("class 200 200 16; class 200 200 16; class 200 200 16; class 200 200 16;"
        + "site 3 0 0 0 0 0 0 0 0 0 0 0 0 0 0 3;");
    for (int i = 0; i < 12; i++) {
      x.addSeason(3, i, 999 - i, 1, i);
    }
    for (int i = 0; i < 20; i++) {
      x.request(3, 100 + 2 * i, 2);
    }
    for (int i = 0; i < 60; i++) {
      x.book(3, i, 1);
    }
    ask(x);
    Due.same("checkIn at the last site", x.checkIn(0, 15), 15);
    x.save(1);
    x.endDays(60);
    Due.same("the first one is DONE", x.bookingState(0), 2);
    Due.same("the last one is ABSENT", x.bookingState(59), 4);
    Due.same("the requests wait", x.requestState(19), 0);
    x.endDays(60);
    Due.same("half of them", x.requestState(9), 3);
    Due.same("are expired", x.requestState(10), 0);
    x.restore(1);
    ask(x);
    Due.same("STAYING again", x.bookingState(0), 1);
    Due.end();
  }

  private static void ask(Campground x) {
    Due.same("fill", x.fill(3), 0);
    Due.same("planSite of the last", x.planSite(59, 0), 0);
    Due.same("gapNights", x.gapNights(3, 0) >= 0 ? 1 : 0, 1);
    Due.same("orphanNights", x.orphanNights(3, 1), 0);
    Due.same("dearestBooking", x.dearestBooking(3), 11);
    Due.same("revenue", x.revenue(), 55 + 49 * 11);
    Due.same("busiestNight", x.busiestNight(3, 60, 998), 60);
    Due.same("expected", x.expected(3, 60, true), 1);
    Due.same("numerator", x.occupancyNumerator(3, 0, 59), 1);
    Due.same("denominator", x.occupancyDenominator(3, 0, 59), 2);
    Due.same("cheapestArrival", x.cheapestArrival(3, 28, 0, 999), 0);
    Due.same("longestStay", x.longestStay(3, 0), 28);
    Due.same("classOf", x.classOf(15), 3);
    Due.same("the last booking's cost", x.cost(59), 11);
  }
}
