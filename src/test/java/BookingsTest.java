/** Promises 18 to 31: bookings. */
public final class BookingsTest {
  public static void main(String[] args) {
    book();
    sixtyBookings();
    getters();
    cancel();
    vacantSite();
    checkIn();
    move();
    departEarly();
    departEarlyPrices();
    extend();
    Due.end();
  }

  private static void book() {
    Campground x = Due.made("class 50 50 1; class 50 50 1; site 0 1; season 0 10 19 3 100; season 0 15 15 1 7;");
    Due.same("book(0, 8, 9)", x.book(0, 8, 9), 0);
    Due.same("its cost", x.cost(0), 20 + 20 + 500 + 7 + 100);
    Due.same("its state", x.bookingState(0), 0);
    Due.same("its class", x.bookingClass(0), 0);
    Due.same("its arrival", x.arrival(0), 8);
    Due.same("its departure", x.departure(0), 17);
    Due.same("its site", x.siteOf(0), -1);
    x.addSeason(0, 0, 99, 1, 1);
    Due.same("its cost stays", x.cost(0), 647);
    Due.same("book(1, 8, 28)", x.book(1, 8, 28), 1);
    Due.same("class of it", x.bookingClass(1), 1);
    Due.same("cost of it", x.cost(1), 560);
    Due.thrown("SOLD OUT", x, Due.STATE, () -> x.book(0, 16, 1));
    Due.thrown("WINDOW, before", x, Due.STATE, () -> x.book(0, -1, 1));
    Due.thrown("WINDOW, behind", x, Due.STATE, () -> x.book(0, 50, 2));
    Due.thrown("WINDOW, far behind", x, Due.STATE, () -> x.book(0, Integer.MAX_VALUE, 28));
    x.addSeason(0, 20, 25, 4, 1);
    Due.thrown("TOO SHORT", x, Due.STATE, () -> x.book(0, 20, 3));
    Due.same("bookingCount", x.bookingCount(), 2);
    for (int nights : new int[] {0, 29, -5, Integer.MAX_VALUE}) {
      Due.thrown("book wrong nights", x, Due.ARGUMENT, () -> x.book(0, 30, nights));
      Due.thrown("book wrong nights with an obstacle", x, Due.ARGUMENT, () -> x.book(0, 16, nights));
      Due.thrown("book, both wrong", x, Due.INDEX, () -> x.book(2, 30, nights));
    }
    Due.thrown("book of no class", x, Due.INDEX, () -> x.book(2, 30, 1));
    Due.thrown("book of class -1", x, Due.INDEX, () -> x.book(-1, 30, 1));
  }

  private static void sixtyBookings() {
    Campground x = Due.made("class 100 100 1; site 0;");
    for (int b = 0; b < 60; b++) {
      Due.same("book " + b, x.book(0, b, 1), b);
    }
    Due.same("bookingCount", x.bookingCount(), 60);
    Due.thrown("a 61st booking", x, Due.STATE, () -> x.book(0, 70, 1));
    x.cancel(59);
    Due.thrown("cancelled ones count too", x, Due.STATE, () -> x.book(0, 70, 1));
    Due.thrown("a wrong 61st booking", x, Due.ARGUMENT, () -> x.book(0, 70, 0));
  }

  private static void getters() {
    Campground x = Due.made("class 9 9 1; site 0;");
    x.book(0, 0, 1);
    for (int b : new int[] {-1, 1, 60, Integer.MIN_VALUE, Integer.MAX_VALUE}) {
      Due.thrown("bookingState", x, Due.INDEX, () -> x.bookingState(b));
      Due.thrown("bookingClass", x, Due.INDEX, () -> x.bookingClass(b));
      Due.thrown("arrival", x, Due.INDEX, () -> x.arrival(b));
      Due.thrown("departure", x, Due.INDEX, () -> x.departure(b));
      Due.thrown("cost", x, Due.INDEX, () -> x.cost(b));
      Due.thrown("siteOf", x, Due.INDEX, () -> x.siteOf(b));
      Due.thrown("cancel", x, Due.INDEX, () -> x.cancel(b));
      Due.thrown("departEarly", x, Due.INDEX, () -> x.departEarly(b));
      Due.thrown("extend", x, Due.INDEX, () -> x.extend(b, 1));
    }
  }

  private static void cancel() {
    Campground x = Due.made("class 50 50 1; site 0 0; season 0 0 99 1 15; day 5;");
    int[] arrivals = {5, 7, 8, 18, 19, 20};
    int[] refunds = {0, 0, 7, 7, 15, 15};
    for (int i = 0; i < 6; i++) {
      x.book(0, arrivals[i], 1);
      Due.same("refund for day " + arrivals[i], x.cancel(i), refunds[i]);
      Due.same("cost then", x.cost(i), 15 - refunds[i]);
      Due.same("state then", x.bookingState(i), 3);
      Due.same("site then", x.siteOf(i), -1);
      Due.same("taken then", x.taken(0, arrivals[i]), 0);
      int b = i;
      Due.thrown("cancelled twice", x, Due.STATE, () -> x.cancel(b));
    }
    Due.same("revenue", x.revenue(), 15 + 15 + 8 + 8);
    x.book(0, 5, 1);
    x.checkIn(6, Campground.NONE);
    Due.thrown("cancel STAYING guests", x, Due.STATE, () -> x.cancel(6));
    x.book(0, 5, 1);
    x.endDays(1);
    Due.thrown("cancel DONE guests", x, Due.STATE, () -> x.cancel(6));
    Due.thrown("cancel ABSENT guests", x, Due.STATE, () -> x.cancel(7));
  }

  private static void vacantSite() {
    Campground x = Due.made("class 50 50 1; class 50 50 1; class 50 50 1; site 1 0 0 1;");
    Due.same("vacantSite(0)", x.vacantSite(0), 1);
    Due.same("vacantSite(1)", x.vacantSite(1), 0);
    Due.same("vacantSite(2)", x.vacantSite(2), -1);
    x.close(1, 2);
    Due.same("not the closed one", x.vacantSite(0), 2);
    x.book(0, 0, 1);
    Due.same("booked is not STAYING", x.vacantSite(0), 2);
    x.checkIn(0, 2);
    Due.same("none left", x.vacantSite(0), -1);
    x.endDays(1);
    Due.same("DONE guests have left", x.vacantSite(0), 2);
    x.endDays(1);
    Due.same("the closing is over", x.vacantSite(0), 1);
    Due.thrown("vacantSite(3)", x, Due.INDEX, () -> x.vacantSite(3));
    Due.thrown("vacantSite(-1)", x, Due.INDEX, () -> x.vacantSite(-1));
    Due.same("on day 999", Due.made("class 9 9 9; site 0; day 999;").vacantSite(0), 0);
  }

  private static void checkIn() {
    Campground x = Due.made("class 50 50 1; class 50 50 1; site 0 0 1 0 0;");
    x.book(0, 0, 3);
    x.book(0, 0, 3);
    x.book(0, 1, 3);
    x.close(4, 1);
    Due.thrown("no such booking", x, Due.INDEX, () -> x.checkIn(3, 0));
    Due.thrown("booking -1", x, Due.INDEX, () -> x.checkIn(-1, -1));
    Due.thrown("no such site", x, Due.INDEX, () -> x.checkIn(0, 5));
    Due.thrown("site -2", x, Due.INDEX, () -> x.checkIn(0, -2));
    Due.thrown("no such site for another day's booking", x, Due.INDEX, () -> x.checkIn(2, 5));
    Due.thrown("another class", x, Due.ARGUMENT, () -> x.checkIn(0, 2));
    Due.thrown("another class and another day", x, Due.ARGUMENT, () -> x.checkIn(2, 2));
    Due.thrown("another day", x, Due.STATE, () -> x.checkIn(2, 0));
    Due.thrown("another day, any site", x, Due.STATE, () -> x.checkIn(2, -1));
    Due.thrown("closed", x, Due.STATE, () -> x.checkIn(0, 4));
    Due.same("checkIn(0, 3)", x.checkIn(0, 3), 3);
    Due.same("its state", x.bookingState(0), 1);
    Due.same("its site", x.siteOf(0), 3);
    Due.thrown("occupied", x, Due.STATE, () -> x.checkIn(1, 3));
    Due.thrown("twice", x, Due.STATE, () -> x.checkIn(0, 0));
    Due.thrown("twice, another class", x, Due.ARGUMENT, () -> x.checkIn(0, 2));
    Due.same("checkIn(1, NONE)", x.checkIn(1, -1), 0);
    Due.same("its site", x.siteOf(1), 0);
    x.endDays(1);
    Due.same("at a site that was closed", x.checkIn(2, 4), 4);
    x.endDays(2);
    Due.same("state at departure", x.bookingState(0), 2);
    Due.same("site afterwards", x.siteOf(0), 3);
    Due.same("site is vacant at once", x.vacantSite(0), 0);
    x.book(0, 3, 1);
    x.cancel(3);
    Due.thrown("cancelled", x, Due.STATE, () -> x.checkIn(3, -1));
    x.book(0, 3, 1);
    x.endDays(1);
    Due.thrown("absent", x, Due.STATE, () -> x.checkIn(4, -1));
    Due.thrown("done", x, Due.STATE, () -> x.checkIn(0, -1));
  }

  private static void move() {
    Campground x = Due.made("class 50 50 1; class 50 50 1; site 0 0 1 0 0;");
    x.book(0, 0, 3);
    x.book(0, 0, 3);
    Due.thrown("not yet STAYING", x, Due.STATE, () -> x.move(0, 1));
    Due.thrown("not yet STAYING, another class", x, Due.ARGUMENT, () -> x.move(0, 2));
    x.checkIn(0, 0);
    x.checkIn(1, 1);
    x.close(3, 2);
    Due.thrown("no such booking", x, Due.INDEX, () -> x.move(2, 4));
    Due.thrown("no such site", x, Due.INDEX, () -> x.move(0, 5));
    Due.thrown("NONE is no site", x, Due.INDEX, () -> x.move(0, -1));
    Due.thrown("another class", x, Due.ARGUMENT, () -> x.move(0, 2));
    Due.thrown("occupied", x, Due.STATE, () -> x.move(0, 1));
    Due.thrown("occupied by these guests", x, Due.STATE, () -> x.move(0, 0));
    Due.thrown("closed", x, Due.STATE, () -> x.move(0, 3));
    Due.same("move(0, 4)", x.move(0, 4), 0);
    Due.same("site then", x.siteOf(0), 4);
    Due.same("the previous site is vacant", x.vacantSite(0), 0);
    Due.same("move(1, 0)", x.move(1, 0), 1);
    Due.same("state stays", x.bookingState(1), 1);
    x.endDays(2);
    Due.same("to a site that was closed", x.move(0, 3), 4);
    x.endDays(1);
    Due.thrown("DONE", x, Due.STATE, () -> x.move(0, 4));
  }

  private static void departEarly() {
    Campground x = Due.made("class 50 50 1; site 0 0 0;");
    x.book(0, 0, 5);
    x.book(0, 0, 5);
    x.book(0, 0, 5);
    Due.thrown("BOOKED", x, Due.STATE, () -> x.departEarly(0));
    for (int b = 0; b < 3; b++) {
      x.checkIn(b, Campground.NONE);
    }
    Due.same("on the arrival day", x.departEarly(0), 40);
    Due.same("departure", x.departure(0), 1);
    Due.same("state", x.bookingState(0), 2);
    Due.same("cost", x.cost(0), 60);
    Due.same("site", x.siteOf(0), 0);
    Due.same("its site is vacant", x.vacantSite(0), 0);
    Due.same("taken tonight", x.taken(0, 0), 2);
    Due.thrown("twice", x, Due.STATE, () -> x.departEarly(0));
    x.endDays(1);
    Due.same("on the next day", x.departEarly(1), 30);
    Due.same("departure", x.departure(1), 1);
    Due.same("cost", x.cost(1), 70);
    x.endDays(3);
    Due.same("on the last day", x.departEarly(2), 0);
    Due.same("departure", x.departure(2), 4);
    Due.same("cost", x.cost(2), 100);
    Due.same("revenue", x.revenue(), 230);
  }

  private static void departEarlyPrices() {
    Campground x = Due.made("class 50 50 1; site 0 0;");
    x.book(0, 0, 4);
    x.book(0, 0, 4);
    x.checkIn(0, -1);
    x.checkIn(1, -1);
    x.addSeason(0, 1, 3, 1, 5);
    Due.same("half of 15, rounded down", x.departEarly(0), 7);
    Due.same("cost", x.cost(0), 73);
    x.addSeason(0, 0, 9, 1, 1000);
    Due.same("at most its cost", x.departEarly(1), 80);
    Due.same("nothing is left", x.cost(1), 0);
  }

  private static void extend() {
    Campground x = Due.made("class 30 30 1; site 0; season 0 5 9 4 50; season 0 12 13 9 3;");
    x.book(0, 4, 3);
    Due.same("extend(0, 4)", x.extend(0, 4), 50 + 50 + 50 + 20);
    Due.same("departure", x.departure(0), 11);
    Due.same("cost", x.cost(0), 20 + 50 + 50 + 170);
    Due.same("TOO SHORT is no obstacle", x.extend(0, 2), 20 + 3);
    x.book(0, 20, 1);
    Due.thrown("SOLD OUT", x, Due.STATE, () -> x.extend(0, 8));
    Due.same("up to the next one", x.extend(0, 7), 3 + 6 * 20);
    Due.thrown("SOLD OUT at once", x, Due.STATE, () -> x.extend(0, 1));
    Due.thrown("WINDOW", x, Due.STATE, () -> x.extend(1, 11));
    Due.same("to the window's end", x.extend(1, 10), 200);
    Due.same("departure", x.departure(1), 31);
    Due.thrown("after the window", x, Due.STATE, () -> x.extend(1, 1));
    for (int nights : new int[] {0, -1, 29, Integer.MAX_VALUE, Integer.MIN_VALUE}) {
      Due.thrown("wrong nights", x, Due.ARGUMENT, () -> x.extend(1, nights));
      Due.thrown("both wrong", x, Due.INDEX, () -> x.extend(2, nights));
    }
    x.cancel(1);
    Due.thrown("CANCELLED", x, Due.STATE, () -> x.extend(1, 1));
    Due.thrown("CANCELLED, wrong nights", x, Due.ARGUMENT, () -> x.extend(1, 0));
    x.endDays(4);
    x.checkIn(0, -1);
    x.endDays(15);
    Due.same("STAYING guests", x.extend(0, 28), 560);
    Due.same("departure", x.departure(0), 48);
    Due.same("more than 28 nights in all", x.extend(0, 1), 20);
    x.departEarly(0);
    Due.thrown("DONE", x, Due.STATE, () -> x.extend(0, 1));
    x.book(0, 19, 1);
    x.endDays(1);
    Due.thrown("ABSENT", x, Due.STATE, () -> x.extend(2, 1));
    Campground late = Due.made("class 50 50 1; site 0; day 990;");
    late.book(0, 997, 1);
    Due.thrown("after the last night", late, Due.STATE, () -> late.extend(0, 2));
    Due.same("to the last day", late.extend(0, 1), 20);
    Due.thrown("from day 999", late, Due.STATE, () -> late.extend(0, 1));
  }
}
