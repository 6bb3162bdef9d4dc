/** Promises 41 to 49: plans and figures. */
public final class PlansTest {
  public static void main(String[] args) {
    planSite();
    planWithClosings();
    gaps();
    orphans();
    planErrors();
    occupancy();
    expected();
    dearestBooking();
    busiestNight();
    revenue();
    nightRanges();
    Due.end();
  }

  private static void planSite() {
    Campground x = Due.made("class 50 50 1; class 50 50 1; site 0 1 0 0 1;");
    x.book(0, 4, 2);   // placed 3rd
    x.book(0, 2, 2);   // placed 1st
    x.book(0, 2, 3);   // placed 2nd
    x.book(0, 7, 1);   // placed last
    x.book(0, 4, 1);   // placed 4th
    x.book(1, 4, 1);
    int[] lowest = {0, 0, 2, 0, 3, 1};
    // With policy 1: 1 to site 0 (until 4), 2 to site 2 (until 5), 0 to site 0 (until 6), 4 to site 3 (until 5),
    // and 3 to site 0, whose departure is the latest.
    int[] latest = {0, 0, 2, 0, 3, 1};
    for (int b = 0; b < 6; b++) {
      Due.same("planSite(" + b + ", 0)", x.planSite(b, 0), lowest[b]);
      Due.same("planSite(" + b + ", 1)", x.planSite(b, 1), latest[b]);
    }
    x.extend(4, 2);
    Due.same("policy 0 takes the lowest", x.planSite(3, 0), 0);
    Due.same("policy 1 takes the latest departure", x.planSite(3, 1), 3);
    x.extend(0, 1);
    Due.same("of equal departures the lowest", x.planSite(3, 1), 0);
    x.cancel(1);
    Due.same("cancelled ones are not in the plan", x.planSite(2, 0), 0);
    Due.thrown("a cancelled one has no site", x, Due.STATE, () -> x.planSite(1, 0));
    Campground y = Due.made("class 50 50 1; site 0 0 0;");
    y.book(0, 0, 3);
    y.book(0, 1, 1);
    y.book(0, 3, 1);
    y.checkIn(0, 2);
    Due.same("STAYING guests keep their site", y.planSite(0, 0), 2);
    Due.same("the lowest besides", y.planSite(1, 0), 0);
    Due.same("a site without a stay comes last", y.planSite(2, 1), 2);
    Due.same("policy 1, both without a stay", y.planSite(1, 1), 0);
    y.departEarly(0);
    Due.same("DONE guests are not in the plan", y.planSite(2, 1), 0);
  }

  private static void planWithClosings() {
    Campground x = Due.made("class 50 50 1; site 0 0 0;");
    x.book(0, 2, 3);
    x.book(0, 4, 1);
    x.close(0, 3);
    Due.same("closed on the arrival night", x.planSite(0, 0), 1);
    Due.same("open again", x.planSite(1, 0), 0);
    Due.same("open again, policy 1", x.planSite(1, 1), 0);
    x.open(0);
    x.close(0, 2);
    Due.same("open on the arrival day", x.planSite(0, 0), 0);
  }

  private static void gaps() {
    Campground x = Due.made("class 50 50 1; class 50 50 1; site 0 0 1;");
    Due.same("nothing is booked", x.gapNights(0, 0), 0);
    x.book(0, 0, 2);
    x.book(0, 0, 5);
    x.book(1, 0, 1);
    x.book(1, 30, 1);
    Due.same("one stay a site", x.gapNights(0, 0), 0);
    x.book(0, 6, 1);
    Due.same("policy 0", x.gapNights(0, 0), 4);
    Due.same("policy 1", x.gapNights(0, 1), 1);
    x.book(0, 7, 1);
    Due.same("policy 0, no gap more", x.gapNights(0, 0), 4);
    x.book(0, 9, 1);
    Due.same("policy 0, another gap", x.gapNights(0, 0), 5);
    Due.same("policy 1, another gap", x.gapNights(0, 1), 2);
    Due.same("class 1", x.gapNights(1, 0), 29);
  }

  private static void orphans() {
    Campground x = Due.made("class 50 50 1; class 50 50 1; site 0 1; season 0 2 9 3 9;");
    x.book(0, 0, 2);
    x.book(0, 4, 3);
    Due.same("2 nights are fewer than 3", x.orphanNights(0, 0), 2);
    Due.same("policy 1, one site", x.orphanNights(0, 1), 2);
    x.book(0, 10, 1);
    Due.same("3 nights are enough", x.orphanNights(0, 0), 2);
    x.addSeason(0, 7, 7, 4, 9);
    Due.same("the first day of the gap counts", x.orphanNights(0, 0), 5);
    x.addSeason(0, 8, 8, 1, 9);
    Due.same("the others do not", x.orphanNights(0, 0), 5);
    x.addSeason(1, 0, 99, 14, 9);
    Due.same("nor does another class", x.orphanNights(1, 0), 0);
    x.book(0, 12, 1);
    Due.same("minimum 1 makes no orphans", x.orphanNights(0, 0), 5);
    Campground y = Due.made("class 50 50 1; site 0 0;");
    y.book(0, 0, 2);
    y.book(0, 0, 5);
    y.book(0, 6, 1);
    y.addSeason(0, 2, 9, 3, 9);
    Due.same("policy 0", y.orphanNights(0, 0), 0);
    Due.same("policy 1", y.orphanNights(0, 1), 1);
  }

  private static void planErrors() {
    Campground x = Due.made("class 50 50 1; site 0;");
    x.book(0, 0, 1);
    x.book(0, 1, 1);
    x.cancel(1);
    for (int policy : new int[] {-1, 2, Integer.MIN_VALUE, Integer.MAX_VALUE}) {
      Due.thrown("planSite", x, Due.ARGUMENT, () -> x.planSite(0, policy));
      Due.thrown("planSite, not active", x, Due.ARGUMENT, () -> x.planSite(1, policy));
      Due.thrown("planSite, no booking", x, Due.INDEX, () -> x.planSite(2, policy));
      Due.thrown("gapNights", x, Due.ARGUMENT, () -> x.gapNights(0, policy));
      Due.thrown("gapNights, both", x, Due.INDEX, () -> x.gapNights(1, policy));
      Due.thrown("orphanNights", x, Due.ARGUMENT, () -> x.orphanNights(0, policy));
      Due.thrown("orphanNights, both", x, Due.INDEX, () -> x.orphanNights(-1, policy));
    }
    Due.thrown("planSite(2)", x, Due.INDEX, () -> x.planSite(2, 0));
    Due.thrown("planSite(-1)", x, Due.INDEX, () -> x.planSite(-1, 0));
    Due.thrown("gapNights(1)", x, Due.INDEX, () -> x.gapNights(1, 0));
    Due.thrown("gapNights(-1)", x, Due.INDEX, () -> x.gapNights(-1, 0));
    Due.thrown("orphanNights(1)", x, Due.INDEX, () -> x.orphanNights(1, 1));
    Due.thrown("planSite CANCELLED", x, Due.STATE, () -> x.planSite(1, 0));
    x.checkIn(0, -1);
    Due.same("planSite STAYING", x.planSite(0, 1), 0);
    x.book(0, 1, 1);
    x.endDays(2);
    Due.thrown("planSite DONE", x, Due.STATE, () -> x.planSite(0, 0));
    Due.thrown("planSite ABSENT", x, Due.STATE, () -> x.planSite(2, 0));
  }

  private static void occupancy() {
    Campground x = Due.made("class 50 50 1; class 50 50 1; site 0 0 0 1;");
    same(x, 0, 0, 998, 0, 1);
    x.book(0, 2, 3);
    x.book(0, 4, 2);
    same(x, 0, 2, 2, 1, 3);
    same(x, 0, 4, 4, 2, 3);
    same(x, 0, 0, 5, 5, 18);
    same(x, 0, 2, 3, 1, 3);
    same(x, 0, 0, 998, 5, 2997);
    same(x, 0, 6, 998, 0, 1);
    same(x, 1, 0, 9, 0, 1);
    x.close(2, 5);
    same(x, 0, 4, 4, 1, 1);
    same(x, 0, 4, 5, 3, 5);
    x.book(1, 0, 28);
    same(x, 1, 0, 27, 1, 1);
    same(x, 1, 0, 55, 1, 2);
    same(x, 0, 998, 998, 0, 1);
    Campground none = Due.made("class 50 50 1;");
    same(none, 0, 0, 5, 0, 1);
  }

  private static void same(Campground x, int c, int first, int last, int over, int under) {
    String range = "(" + c + ", " + first + ", " + last + ")";
    Due.same("occupancyNumerator" + range, x.occupancyNumerator(c, first, last), over);
    Due.same("occupancyDenominator" + range, x.occupancyDenominator(c, first, last), under);
  }

  private static void expected() {
    Campground x = Due.made("class 50 50 1; class 50 50 1; site 0 0 0 1;");
    x.book(0, 0, 3);
    x.book(0, 0, 3);
    x.book(0, 3, 2);
    x.book(1, 3, 1);
    x.book(1, 0, 3);
    Due.same("arriving", x.expected(0, 0, false), 2);
    Due.same("arriving, all", x.expected(-1, 0, false), 3);
    Due.same("departing", x.expected(0, 3, true), 2);
    Due.same("departing, all", x.expected(-1, 3, true), 3);
    Due.same("arriving on day 3, class 1", x.expected(1, 3, false), 1);
    Due.same("arriving on day 3, all", x.expected(-1, 3, false), 2);
    Due.same("on another day", x.expected(-1, 2, true), 0);
    x.checkIn(0, -1);
    Due.same("STAYING guests have arrived", x.expected(0, 0, false), 1);
    Due.same("but they will depart", x.expected(0, 3, true), 2);
    x.cancel(4);
    Due.same("cancelled ones neither arrive", x.expected(1, 0, false), 0);
    Due.same("nor depart", x.expected(1, 3, true), 0);
    x.endDays(1);
    Due.same("ABSENT ones do not arrive", x.expected(-1, 0, false), 0);
    Due.same("nor depart", x.expected(-1, 3, true), 1);
    x.endDays(2);
    Due.same("DONE ones have departed", x.expected(-1, 3, true), 0);
    Due.same("day 999", x.expected(-1, 999, true), 0);
    Due.same("without classes", new Campground().expected(-1, 0, true), 0);
    for (int c : new int[] {-2, 2, Integer.MIN_VALUE, Integer.MAX_VALUE}) {
      Due.thrown("expected of no class", x, Due.INDEX, () -> x.expected(c, 0, true));
      Due.thrown("expected, both wrong", x, Due.INDEX, () -> x.expected(c, 1000, false));
    }
    for (int day : new int[] {-1, 1000, Integer.MIN_VALUE, Integer.MAX_VALUE}) {
      Due.thrown("expected on a wrong day", x, Due.ARGUMENT, () -> x.expected(0, day, true));
      Due.thrown("expected on a wrong day, all", x, Due.ARGUMENT, () -> x.expected(-1, day, false));
    }
  }

  private static void dearestBooking() {
    Campground x = Due.made("class 50 50 1; class 50 50 1; site 0 0 0 0 1; season 0 1 1 1 21; season 0 5 5 1 22;");
    Due.same("none", x.dearestBooking(0), -1);
    x.book(0, 2, 3);    // 60 for 3
    x.book(0, 0, 3);    // 61 for 3
    x.book(0, 1, 3);    // 61 for 3
    x.book(0, 3, 4);    // 82 for 4
    x.book(1, 0, 1);    // 20 for 1
    Due.same("82 for 4 is the dearest", x.dearestBooking(0), 3);
    x.cancel(3);
    Due.same("of equal ones the lowest", x.dearestBooking(0), 1);
    x.checkIn(1, -1);
    Due.same("STAYING counts", x.dearestBooking(0), 1);
    x.departEarly(1);
    Due.same("DONE does not", x.dearestBooking(0), 2);
    x.endDays(2);
    Due.same("ABSENT does not", x.dearestBooking(0), 0);
    Due.same("none of the class", x.dearestBooking(1), -1);
    Due.thrown("dearestBooking(2)", x, Due.INDEX, () -> x.dearestBooking(2));
    Due.thrown("dearestBooking(-1)", x, Due.INDEX, () -> x.dearestBooking(-1));

    Campground even = Due.made("class 50 50 1; site 0 0;");
    even.book(0, 10, 3);
    even.book(0, 20, 2);
    even.book(0, 9, 5);
    Due.same("the number of nights counts alone", even.dearestBooking(0), 0);

    // 200 nights at 9999 and some more: the products are greater than an int.
    Campground big = Due.made("class 200 200 1; site 0 0; season 0 0 999 1 9999; season 0 0 0 1 9998;");
    big.book(0, 0, 28);
    big.book(0, 1, 28);
    for (int i = 0; i < 6; i++) {
      big.extend(0, 28);
      big.extend(1, 28);
    }
    Due.same("exactly compared", big.dearestBooking(0), 1);
    Due.same("the great sum", big.revenue(), 2 * 196 * 9999 - 1);
  }

  private static void busiestNight() {
    Campground x = Due.made("class 50 50 1; class 50 50 1; site 0 0 0 1;");
    Due.same("nothing is taken", x.busiestNight(0, 4, 998), 4);
    x.book(0, 5, 3);
    x.book(0, 7, 4);
    x.book(0, 9, 2);
    x.book(1, 0, 9);
    Due.same("of several the earliest", x.busiestNight(0, 0, 998), 7);
    Due.same("behind it", x.busiestNight(0, 8, 998), 9);
    Due.same("the last night counts", x.busiestNight(0, 8, 9), 9);
    Due.same("the first night counts", x.busiestNight(0, 10, 998), 10);
    Due.same("before it", x.busiestNight(0, 0, 6), 5);
    Due.same("one night", x.busiestNight(0, 3, 3), 3);
    Due.same("class 1", x.busiestNight(1, 0, 998), 0);
    x.endDays(6);
    Due.same("ABSENT ones take nothing", x.busiestNight(0, 6, 998), 9);
  }

  private static void revenue() {
    Campground x = Due.made("class 50 50 1; class 50 50 1; site 0 1;");
    x.book(0, 0, 2);
    x.book(1, 5, 3);
    x.book(1, 20, 1);
    Due.same("all classes", x.revenue(), 120);
    x.cancel(2);
    Due.same("all refunded", x.revenue(), 100);
    x.cancel(1);
    Due.same("half refunded", x.revenue(), 70);
    x.endDays(1);
    Due.same("ABSENT ones count", x.revenue(), 70);
  }

  private static void nightRanges() {
    Campground x = Due.made("class 50 50 1; site 0; day 5;");
    int[][] wrong = {{4, 9}, {-1, 9}, {999, 999}, {9, 8}, {9, 999}, {5, Integer.MAX_VALUE}, {Integer.MIN_VALUE, 9}};
    for (int[] w : wrong) {
      Due.thrown("numerator", x, Due.ARGUMENT, () -> x.occupancyNumerator(0, w[0], w[1]));
      Due.thrown("denominator", x, Due.ARGUMENT, () -> x.occupancyDenominator(0, w[0], w[1]));
      Due.thrown("busiestNight", x, Due.ARGUMENT, () -> x.busiestNight(0, w[0], w[1]));
      Due.thrown("numerator, both", x, Due.INDEX, () -> x.occupancyNumerator(1, w[0], w[1]));
      Due.thrown("denominator, both", x, Due.INDEX, () -> x.occupancyDenominator(1, w[0], w[1]));
      Due.thrown("busiestNight, both", x, Due.INDEX, () -> x.busiestNight(1, w[0], w[1]));
    }
    for (int c : new int[] {-1, 1, Integer.MIN_VALUE, Integer.MAX_VALUE}) {
      Due.thrown("numerator", x, Due.INDEX, () -> x.occupancyNumerator(c, 5, 9));
      Due.thrown("denominator", x, Due.INDEX, () -> x.occupancyDenominator(c, 5, 9));
      Due.thrown("busiestNight", x, Due.INDEX, () -> x.busiestNight(c, 5, 9));
    }
    Campground end = Due.made("class 50 50 1; site 0; day 999;");
    Due.thrown("no night is left", end, Due.ARGUMENT, () -> end.busiestNight(0, 999, 999));
    Due.thrown("998 is over", end, Due.ARGUMENT, () -> end.occupancyNumerator(0, 998, 998));
    Due.thrown("998 is over too", end, Due.ARGUMENT, () -> end.occupancyDenominator(0, 998, 998));
  }
}
