/** Bookings, and promises 18 to 31, sentence by sentence. */
final class BookingsBoundaries {
  private static final int NONE = Campground.NONE;

  private BookingsBoundaries() {
  }

  @Says(at = "BOOKINGS", words = "There are at most 60 bookings, numbered from 0.")
  static void mostBookings() {
    Campground x = Due.made("class 90 90 9; site 0;");
    for (int b = 0; b < 60; b++) {
      Due.same("book", x.book(0, b, 1), b);
    }
    Due.thrown("a 61st booking", x, Due.STATE, () -> x.book(0, 70, 1));
    x.cancel(59);
    Due.thrown("a cancelled one keeps its number", x, Due.STATE, () -> x.book(0, 70, 1));
    Due.same("the last one", x.arrival(59), 59);
    x.endDays(60);
    Due.same("the last but one is ABSENT", x.bookingState(58), 4);
    Due.same("the last one is as it was", x.bookingState(59), 3);
  }

  @Says(at = "BOOKINGS", words = "A booking has a class, an arrival day, a departure day, a cost, and a state: BOOKED "
      + "(0), STAYING (1), DONE (2), CANCELLED (3) or ABSENT (4).")
  static void oneOfEachState() {
    Campground x = oneOfEach();
    for (int b = 0; b < 5; b++) {
      Due.same("state of " + b, x.bookingState(b), b);
      Due.same("class of " + b, x.bookingClass(b), 1);
    }
  }

  @Says(at = "BOOKINGS", words = "It covers the nights from its arrival day to the day before its departure day.")
  static void coveredNights() {
    Campground x = Due.made("class 50 50 9; site 0;");
    x.book(0, 3, 1);
    x.book(0, 10, 28);
    int[][] want = {{2, 0}, {3, 1}, {4, 0}, {9, 0}, {10, 1}, {37, 1}, {38, 0}};
    for (int[] w : want) {
      Due.same("taken on " + w[0], x.taken(0, w[0]), w[1]);
    }
    Due.same("departure after one night", x.departure(0), 4);
    Due.same("departure after 28 nights", x.departure(1), 38);
    x.extend(0, 2);
    Due.same("the last added night", x.taken(0, 5), 1);
    Due.same("the departure day", x.taken(0, 6), 0);
  }

  @Says(at = "BOOKINGS", words = "A booking is active if it is BOOKED or STAYING.")
  static void activeStates() {
    Campground x = oneOfEach();
    int[] active = {1, 1, 0, 0, 0};
    for (int b = 0; b < 5; b++) {
      int number = b;
      if (active[b] == 1) {
        Due.same("planSite of " + b, x.planSite(b, 0) >= 0 ? 1 : 0, 1);
        Due.same("extend of " + b, x.extend(b, 1), 20);
      } else {
        Due.thrown("planSite of " + b, x, Due.STATE, () -> x.planSite(number, 0));
        Due.thrown("extend of " + b, x, Due.STATE, () -> x.extend(number, 1));
      }
    }
  }

  @Says(at = "BOOKINGS", words = "A STAYING booking has a site of its class.")
  static void siteOfItsClass() {
    Campground x = Due.made("class 50 50 9; class 50 50 9; site 0 1;");
    x.book(1, 0, 2);
    Due.thrown("the other class", x, Due.ARGUMENT, () -> x.checkIn(0, 0));
    Due.same("the lowest site of its class", x.checkIn(0, NONE), 1);
    Due.thrown("not moved to the other class", x, Due.ARGUMENT, () -> x.move(0, 0));
    Due.same("its site", x.siteOf(0), 1);
  }

  @Says(at = "BOOKINGS", words = "The cost of a new booking is the sum of the prices of its nights, as they are then.")
  static void costOfNewBooking() {
    Campground x = Due.made("class 90 90 9; site 0 0; season 0 5 6 1 100; season 0 50 90 1 9999; season 0 30 31 1 0;");
    int[][] want = {{4, 1, 20}, {4, 2, 120}, {5, 2, 200}, {6, 2, 120}, {7, 1, 20}, {30, 2, 0}, {50, 28, 279972}};
    for (int i = 0; i < want.length; i++) {
      x.book(0, want[i][0], want[i][1]);
      Due.same("cost of " + want[i][1] + " nights from " + want[i][0], x.cost(i), want[i][2]);
      x.cancel(i);
    }
    int b = x.book(0, 5, 1);
    x.addSeason(0, 5, 5, 1, 7);
    Due.same("a later season changes nothing", x.cost(b), 100);
    Due.same("but the next booking", x.cost(x.book(0, 5, 1)), 7);
  }

  @Says(at = "Promise 18", words = "`arrival`: any number")
  static void bookOnAnyDay() {
    Campground x = Due.made("class 20 20 9; site 0; day 5;");
    for (int day : new int[] {Edges.MIN, -1, 0, 4, 26, 998, 999, 1000, Edges.MAX - 27, Edges.MAX}) {
      Due.thrown("book on " + day, x, Due.STATE, () -> x.book(0, day, 1));
      Due.thrown("book 28 nights on " + day, x, Due.STATE, () -> x.book(0, day, 28));
    }
    Due.same("the present day", x.book(0, 5, 1), 0);
    Due.same("the window's last night", x.book(0, 25, 1), 1);
    Campground late = Due.made("class 20 20 9; site 0; day 998;");
    Due.same("the last night of all", late.book(0, 998, 1), 0);
  }

  @Says(at = "Promise 18", words = "`nights`: 1 to 28")
  static void bookNights() {
    Campground x = Due.made("class 90 90 9; site 0;");
    x.book(0, 0, 1);
    Due.same("1 night", x.departure(0) - x.arrival(0), 1);
    x.book(0, 1, 28);
    Due.same("28 nights", x.departure(1) - x.arrival(1), 28);
    Due.thrown("0 nights", x, Due.ARGUMENT, () -> x.book(0, 40, 0));
    Due.thrown("29 nights", x, Due.ARGUMENT, () -> x.book(0, 40, 29));
  }

  @Says(at = "Promise 18", words = "Throws `IndexOutOfBoundsException` if there is no such class")
  static void bookNoClass() {
    Edges.noSuchClass("book", (x, c) -> x.book(c, 0, 1));
    Campground full = sixtyBookings();
    Due.thrown("also if all else is wrong", full, Due.INDEX, () -> full.book(1, -1, 0));
  }

  @Says(at = "Promise 18", words = "Throws `IllegalArgumentException` if nights is out of range")
  static void bookWrongNights() {
    Edges.range("nights", "class 90 90 9; site 0;", 1, 28, (x, nights) -> x.book(0, 0, nights));
    Campground full = sixtyBookings();
    Due.thrown("also if there are 60", full, Due.ARGUMENT, () -> full.book(0, 80, 29));
    Due.thrown("also before the present day", full, Due.ARGUMENT, () -> full.book(0, -1, 0));
  }

  @Says(at = "Promise 18", words = "Throws `IllegalStateException` if there is an obstacle or there are 60 bookings")
  static void bookRefused() {
    Campground x = Due.made("class 20 20 9; site 0; season 0 10 10 2 20;");
    x.book(0, 5, 1);
    Due.thrown("WINDOW", x, Due.STATE, () -> x.book(0, 21, 1));
    Due.thrown("WINDOW, the last of its nights", x, Due.STATE, () -> x.book(0, 20, 2));
    Due.thrown("SOLD OUT", x, Due.STATE, () -> x.book(0, 5, 1));
    Due.thrown("SOLD OUT, the last of its nights", x, Due.STATE, () -> x.book(0, 4, 2));
    Due.thrown("TOO SHORT", x, Due.STATE, () -> x.book(0, 10, 1));
    Due.same("just long enough", x.book(0, 10, 2), 1);
    Due.same("just before", x.book(0, 4, 1), 2);
    Due.same("the window's last night", x.book(0, 20, 1), 3);
    Campground full = Due.made("class 90 90 9; site 0;");
    for (int b = 0; b < 59; b++) {
      full.book(0, b, 1);
    }
    Due.same("the 60th booking", full.book(0, 59, 1), 59);
    Due.thrown("the 61st booking", full, Due.STATE, () -> full.book(0, 60, 1));
  }

  @Says(at = "Promise 19", words = "Returns the number of bookings in all states.")
  static void bookingCount() {
    Due.same("none", new Campground().bookingCount(), 0);
    Due.same("one of each state", oneOfEach().bookingCount(), 5);
    Due.same("as many as there can be", sixtyBookings().bookingCount(), 60);
  }

  @Says(at = "Promise 20", words = "Returns 0 BOOKED, 1 STAYING, 2 DONE, 3 CANCELLED, 4 ABSENT.")
  static void bookingState() {
    Campground x = oneOfEach();
    for (int b = 0; b < 5; b++) {
      Due.same("bookingState", x.bookingState(b), b);
    }
  }

  @Says(at = "Promise 20", words = "Throws `IndexOutOfBoundsException` if there is no such booking")
  static void stateOfNoBooking() {
    Edges.noSuchBooking("bookingState", false, (x, b) -> x.bookingState(b));
  }

  @Says(at = "Promise 21", words = "Throws `IndexOutOfBoundsException` if there is no such booking")
  static void classOfNoBooking() {
    Edges.noSuchBooking("bookingClass", false, (x, b) -> x.bookingClass(b));
  }

  @Says(at = "Promise 22", words = "Throws `IndexOutOfBoundsException` if there is no such booking")
  static void arrivalOfNoBooking() {
    Edges.noSuchBooking("arrival", false, (x, b) -> x.arrival(b));
  }

  @Says(at = "Promise 23", words = "Throws `IndexOutOfBoundsException` if there is no such booking")
  static void departureOfNoBooking() {
    Edges.noSuchBooking("departure", false, (x, b) -> x.departure(b));
  }

  @Says(at = "Promise 24", words = "Returns its cost, refunds subtracted.")
  static void costAndRefunds() {
    Campground x = Due.made("class 50 50 9; site 0 0; season 0 20 20 1 15;");
    x.book(0, 20, 1);
    Due.same("as booked", x.cost(0), 15);
    Due.same("whole refund", x.cancel(0), 15);
    Due.same("nothing is left", x.cost(0), 0);
    x.book(0, 0, 3);
    x.checkIn(1, NONE);
    Due.same("half of two nights", x.departEarly(1), 20);
    Due.same("the rest", x.cost(1), 40);
    x.book(0, 0, 1);
    x.cancel(2);
    Due.same("no refund", x.cost(2), 20);
  }

  @Says(at = "Promise 24", words = "Throws `IndexOutOfBoundsException` if there is no such booking")
  static void costOfNoBooking() {
    Edges.noSuchBooking("cost", false, (x, b) -> x.cost(b));
  }

  @Says(at = "Promise 25", words = "Returns its site (STAYING or DONE); NONE otherwise.")
  static void siteOf() {
    Campground x = oneOfEach();
    Due.same("BOOKED", x.siteOf(0), NONE);
    Due.same("STAYING", x.siteOf(1), 2);
    Due.same("DONE", x.siteOf(2), 3);
    Due.same("CANCELLED", x.siteOf(3), NONE);
    Due.same("ABSENT", x.siteOf(4), NONE);
    Campground zero = Due.made("class 50 50 9; site 0;");
    zero.book(0, 0, 1);
    zero.checkIn(0, NONE);
    Due.same("STAYING at site 0", zero.siteOf(0), 0);
    zero.endDays(1);
    Due.same("DONE at site 0", zero.siteOf(0), 0);
  }

  @Says(at = "Promise 25", words = "Throws `IndexOutOfBoundsException` if there is no such booking")
  static void siteOfNoBooking() {
    Edges.noSuchBooking("siteOf", false, (x, b) -> x.siteOf(b));
  }

  @Says(at = "Promise 26", words = "The whole cost is refunded if it arrives 14 days after the present day or later, "
      + "half of it (rounded down) if it arrives 3 to 13 days after the present day, and nothing otherwise.")
  static void refunds() {
    Campground x = Due.made("class 50 50 9; site 0; season 0 0 99 1 15; season 0 12 12 1 1; season 0 11 11 1 0; day 7;");
    int[][] want = {{57, 15}, {22, 15}, {21, 15}, {20, 7}, {13, 7}, {12, 0}, {11, 0}, {10, 7}, {9, 0}, {8, 0}, {7, 0}};
    for (int i = 0; i < want.length; i++) {
      x.book(0, want[i][0], 1);
      Due.same("refund " + (want[i][0] - 7) + " days ahead", x.cancel(i), want[i][1]);
    }
    x.book(0, 21, 1);
    x.endDays(1);
    Due.same("13 days ahead on the next day", x.cancel(want.length), 7);
  }

  @Says(at = "Promise 26", words = "The refund is subtracted from the cost.")
  static void refundIsSubtracted() {
    Campground x = Due.made("class 50 50 9; site 0; season 0 0 99 1 15;");
    int[][] want = {{14, 0}, {13, 8}, {3, 8}, {2, 15}};
    for (int i = 0; i < want.length; i++) {
      x.book(0, want[i][0], 1);
      x.cancel(i);
      Due.same("cost of a cancelled booking", x.cost(i), want[i][1]);
    }
    Due.same("revenue", x.revenue(), 31);
  }

  @Says(at = "Promise 26", words = "Throws `IndexOutOfBoundsException` if there is no such booking")
  static void cancelNoBooking() {
    Edges.noSuchBooking("cancel", false, (x, b) -> x.cancel(b));
  }

  @Says(at = "Promise 26", words = "Throws `IllegalStateException` if it is not BOOKED")
  static void cancelRefused() {
    Campground x = oneOfEach();
    for (int b = 1; b < 5; b++) {
      int number = b;
      Due.thrown("cancel in state " + b, x, Due.STATE, () -> x.cancel(number));
    }
    x.cancel(0);
    Due.same("a BOOKED one", x.bookingState(0), 3);
    Due.thrown("the same one again", x, Due.STATE, () -> x.cancel(0));
  }

  @Says(at = "Promise 27", words = "Returns the lowest site of the class that is not closed tonight and at which nobody "
      + "is STAYING; NONE if there is none.")
  static void vacantSite() {
    Campground x = Due.made("class 50 50 9; class 50 50 9; class 50 50 9; site 1 0 0 0;");
    Due.same("no site", x.vacantSite(2), NONE);
    Due.same("site 0", x.vacantSite(1), 0);
    Due.same("the lowest", x.vacantSite(0), 1);
    x.close(1, 1);
    Due.same("the next one", x.vacantSite(0), 2);
    x.book(0, 0, 1);
    Due.same("BOOKED ones are not there", x.vacantSite(0), 2);
    x.checkIn(0, 2);
    Due.same("STAYING ones are", x.vacantSite(0), 3);
    x.close(3, 2);
    Due.same("none is left", x.vacantSite(0), NONE);
    x.endDays(1);
    Due.same("the closing is over, the guests are gone", x.vacantSite(0), 1);
    x.close(1, 3);
    Due.same("they are gone indeed", x.vacantSite(0), 2);
    x.close(2, 2);
    Due.same("all are closed", x.vacantSite(0), NONE);
    Due.same("day 999", Due.made("class 9 9 9; site 0; day 999;").vacantSite(0), 0);
  }

  @Says(at = "Promise 27", words = "Throws `IndexOutOfBoundsException` if there is no such class")
  static void vacantSiteOfNoClass() {
    Edges.noSuchClass("vacantSite", (x, c) -> x.vacantSite(c));
  }

  @Says(at = "Promise 28", words = "Lets the guests of a BOOKED booking arrive, on its arrival day; they are STAYING "
      + "then.")
  static void arrivalDay() {
    Campground x = Due.made("class 50 50 9; site 0 0; day 4;");
    x.book(0, 5, 2);
    Due.thrown("a day too early", x, Due.STATE, () -> x.checkIn(0, NONE));
    x.endDays(1);
    Due.same("on the day", x.checkIn(0, NONE), 0);
    Due.same("STAYING", x.bookingState(0), 1);
    x.book(0, 5, 2);
    x.endDays(1);
    Due.thrown("a day too late", x, Due.STATE, () -> x.checkIn(1, NONE));
    Campground last = Due.made("class 50 50 9; site 0; day 998;");
    last.book(0, 998, 1);
    Due.same("on day 998", last.checkIn(0, NONE), 0);
  }

  @Says(at = "Promise 28", words = "`site`: a site of its class that is not closed tonight and at which nobody is "
      + "STAYING; or NONE for vacantSite()")
  static void siteOfCheckIn() {
    Campground x = Due.made("class 50 50 9; class 50 50 9; site 1 0 0 0 0 0;");
    for (int b = 0; b < 4; b++) {
      x.book(0, 0, 2);
    }
    x.close(1, 1);
    Due.same("the last site", x.checkIn(0, 5), 5);
    Due.same("NONE is the lowest vacant one", x.checkIn(1, NONE), 2);
    Due.same("NONE again", x.checkIn(2, NONE), 3);
    Due.same("the only one that is left", x.checkIn(3, x.vacantSite(0)), 4);
    Due.same("nothing is left", x.vacantSite(0), NONE);
    x.endDays(1);
    x.book(0, 1, 1);
    Due.same("closed until today", x.checkIn(4, 1), 1);
  }

  @Says(at = "Promise 28", words = "Throws `IndexOutOfBoundsException` if there is no such booking, or site is neither "
      + "NONE nor a site")
  static void checkInNothing() {
    Edges.noSuchBooking("checkIn", false, (x, b) -> x.checkIn(b, NONE));
    Edges.noSuchBooking("checkIn", false, (x, b) -> x.checkIn(b, 1));
    Campground x = Due.made("class 50 50 9; class 50 50 9; site 0 1;");
    x.book(0, 0, 1);
    x.book(0, 1, 1);
    for (int site : new int[] {Edges.MIN, -2, 2, 3, 16, Edges.MAX}) {
      Due.thrown("site " + site, x, Due.INDEX, () -> x.checkIn(0, site));
      Due.thrown("site " + site + " on another day", x, Due.INDEX, () -> x.checkIn(1, site));
      Due.thrown("site " + site + ", no booking", x, Due.INDEX, () -> x.checkIn(2, site));
    }
    Due.thrown("no booking, a site", x, Due.INDEX, () -> x.checkIn(2, 1));
  }

  @Says(at = "Promise 28", words = "Throws `IllegalArgumentException` if the site has another class")
  static void checkInAtOtherClass() {
    Campground x = oneOfEach();
    for (int b = 0; b < 5; b++) {
      int number = b;
      Due.thrown("also in state " + b, x, Due.ARGUMENT, () -> x.checkIn(number, 0));
    }
    x.close(0, 30);
    Due.thrown("also if it is closed", x, Due.ARGUMENT, () -> x.checkIn(0, 0));
  }

  @Says(at = "Promise 28", words = "Throws `IllegalStateException` if the booking is not BOOKED or arrives on another "
      + "day, or the site is closed or occupied")
  static void checkInRefused() {
    Campground x = Due.made("class 50 50 9; site 0 0 0 0; day 3;");
    for (int b = 0; b < 3; b++) {
      x.book(0, 3, 2);
    }
    x.book(0, 4, 2);
    x.close(3, 4);
    Due.thrown("arrives tomorrow", x, Due.STATE, () -> x.checkIn(3, 0));
    Due.thrown("arrives tomorrow, NONE", x, Due.STATE, () -> x.checkIn(3, NONE));
    Due.thrown("closed", x, Due.STATE, () -> x.checkIn(0, 3));
    x.checkIn(0, 0);
    Due.thrown("occupied", x, Due.STATE, () -> x.checkIn(1, 0));
    Due.thrown("STAYING", x, Due.STATE, () -> x.checkIn(0, 1));
    x.cancel(1);
    Due.thrown("CANCELLED", x, Due.STATE, () -> x.checkIn(1, 1));
    x.endDays(1);
    Due.thrown("ABSENT", x, Due.STATE, () -> x.checkIn(2, 1));
    Due.same("tomorrow has come, the closing is over", x.checkIn(3, 3), 3);
    x.endDays(1);
    Due.thrown("DONE", x, Due.STATE, () -> x.checkIn(0, 0));
    Due.thrown("DONE, NONE", x, Due.STATE, () -> x.checkIn(0, NONE));
  }

  @Says(at = "Promise 29", words = "Moves STAYING guests to another site of their class that is not closed tonight and "
      + "at which nobody is STAYING.")
  static void move() {
    Campground x = Due.made("class 50 50 9; site 0 0 0;");
    x.book(0, 0, 3);
    x.book(0, 0, 1);
    x.checkIn(0, 0);
    x.checkIn(1, 1);
    x.close(2, 1);
    x.endDays(1);
    Due.same("to one that is open since today", x.move(0, 2), 0);
    Due.same("to one that was left today", x.move(0, 1), 2);
    Due.same("and back", x.move(0, 0), 1);
    Due.same("its site", x.siteOf(0), 0);
    Due.same("still STAYING", x.bookingState(0), 1);
  }

  @Says(at = "Promise 29", words = "Throws `IndexOutOfBoundsException` if there is no such booking or site")
  static void moveNothing() {
    Edges.noSuchBooking("move", true, (x, b) -> x.move(b, 1));
    Campground x = Due.made("class 50 50 9; site 0 0;");
    x.book(0, 0, 2);
    x.book(0, 0, 2);
    x.checkIn(0, 0);
    for (int site : new int[] {Edges.MIN, -2, -1, 2, 16, Edges.MAX}) {
      Due.thrown("to site " + site, x, Due.INDEX, () -> x.move(0, site));
      Due.thrown("not STAYING, to site " + site, x, Due.INDEX, () -> x.move(1, site));
      Due.thrown("no booking, to site " + site, x, Due.INDEX, () -> x.move(2, site));
    }
  }

  @Says(at = "Promise 29", words = "Throws `IllegalArgumentException` if the site has another class")
  static void moveToOtherClass() {
    Campground x = oneOfEach();
    for (int b = 0; b < 5; b++) {
      int number = b;
      Due.thrown("also in state " + b, x, Due.ARGUMENT, () -> x.move(number, 0));
    }
    x.close(0, 30);
    Due.thrown("also if it is closed", x, Due.ARGUMENT, () -> x.move(1, 0));
  }

  @Says(at = "Promise 29", words = "Throws `IllegalStateException` if the booking is not STAYING, or the site is closed "
      + "or occupied (also by these guests)")
  static void moveRefused() {
    Campground each = oneOfEach();
    for (int b : new int[] {0, 2, 3, 4}) {
      Due.thrown("in state " + b, each, Due.STATE, () -> each.move(b, 4));
    }
    Due.same("STAYING", each.move(1, 4), 2);
    Campground x = Due.made("class 50 50 9; site 0 0 0;");
    x.book(0, 0, 2);
    x.book(0, 0, 2);
    x.checkIn(0, 0);
    x.checkIn(1, 1);
    x.close(2, 1);
    Due.thrown("closed", x, Due.STATE, () -> x.move(0, 2));
    Due.thrown("occupied", x, Due.STATE, () -> x.move(0, 1));
    Due.thrown("occupied by these guests", x, Due.STATE, () -> x.move(0, 0));
  }

  @Says(at = "Promise 30", words = "Lets STAYING guests depart early, today: the booking is DONE, its departure day is "
      + "the present day (on the arrival day: the next day), and half of the sum of the present prices of the nights "
      + "after tonight up to its previous departure day is refunded (rounded down, but at most its cost).")
  static void departEarly() {
    Campground x = Due.made("class 50 50 9; site 0 0 0 0;");
    x.addSeason(0, 3, 3, 1, 21);
    for (int b = 0; b < 4; b++) {
      x.book(0, 0, 4);
      x.checkIn(b, NONE);
    }
    leaves(x, 0, 30, 1, 51);      // nights 1, 2 and 3 for 61
    x.endDays(1);
    leaves(x, 1, 20, 1, 61);      // nights 2 and 3 for 41
    x.endDays(1);
    leaves(x, 2, 10, 2, 71);      // night 3 for 21
    x.endDays(1);
    leaves(x, 3, 0, 3, 81);       // no night after tonight
    Due.same("their sites are vacant", x.vacantSite(0), 0);
    Campground one = Due.made("class 50 50 9; site 0;");
    one.book(0, 0, 1);
    one.checkIn(0, 0);
    leaves(one, 0, 0, 1, 20);
  }

  @Says(at = "Promise 30", words = "Returns the refund.")
  static void atMostTheCost() {
    int[][] want = {{13, 13}, {40, 40}, {41, 40}, {9999, 40}, {0, 0}, {1, 1}};
    for (int[] w : want) {
      Campground x = Due.made("class 50 50 9; site 0;");
      x.book(0, 0, 2);
      x.checkIn(0, 0);
      // Half of a present price of 2 * w is w, but the guests have paid 40 only.
      x.addSeason(0, 0, 9, 1, Math.min(2 * w[0], 9999));
      leaves(x, 0, w[1], 1, 40 - w[1]);
    }
  }

  private static void leaves(Campground x, int b, int refund, int departure, int cost) {
    Due.same("refund of " + b, x.departEarly(b), refund);
    Due.same("state of " + b, x.bookingState(b), 2);
    Due.same("departure of " + b, x.departure(b), departure);
    Due.same("cost of " + b, x.cost(b), cost);
  }

  @Says(at = "Promise 30", words = "Throws `IndexOutOfBoundsException` if there is no such booking")
  static void departNoBooking() {
    Edges.noSuchBooking("departEarly", true, (x, b) -> x.departEarly(b));
  }

  @Says(at = "Promise 30", words = "Throws `IllegalStateException` if it is not STAYING")
  static void departRefused() {
    Campground x = oneOfEach();
    for (int b : new int[] {0, 2, 3, 4}) {
      Due.thrown("in state " + b, x, Due.STATE, () -> x.departEarly(b));
    }
    x.departEarly(1);
    Due.same("a STAYING one", x.bookingState(1), 2);
    Due.thrown("the same one again", x, Due.STATE, () -> x.departEarly(1));
  }

  @Says(at = "Promise 31", words = "Adds nights at the end of an active booking; the sum of their prices is added to the "
      + "cost.")
  static void extend() {
    Campground x = Due.made("class 50 50 9; site 0; season 0 5 6 1 100; season 0 7 7 1 0;");
    x.book(0, 4, 1);
    Due.same("its departure day is the first added night", x.extend(0, 1), 100);
    Due.same("departure", x.departure(0), 6);
    Due.same("cost", x.cost(0), 120);
    Due.same("two more nights", x.extend(0, 2), 100);
    Due.same("departure", x.departure(0), 8);
    Due.same("cost", x.cost(0), 220);
    Due.same("a night for nothing", x.taken(0, 7), 1);
  }

  @Says(at = "Promise 31", words = "Only WINDOW and SOLD OUT are obstacles for the added nights.")
  static void obstaclesOfExtending() {
    Campground x = Due.made("class 20 20 9; site 0; season 0 0 99 14 20;");
    x.book(0, 0, 14);
    Due.same("TOO SHORT is none", x.extend(0, 1), 20);
    Due.thrown("WINDOW", x, Due.STATE, () -> x.extend(0, 7));
    Due.same("to the window's last night", x.extend(0, 6), 120);
    Due.thrown("WINDOW at once", x, Due.STATE, () -> x.extend(0, 1));
    Campground sold = Due.made("class 20 20 9; site 0;");
    sold.book(0, 0, 1);
    sold.book(0, 5, 1);
    Due.thrown("SOLD OUT", sold, Due.STATE, () -> sold.extend(0, 5));
    Due.same("to the night before", sold.extend(0, 4), 80);
    Due.thrown("SOLD OUT at once", sold, Due.STATE, () -> sold.extend(0, 1));
    Campground late = Due.made("class 20 20 9; site 0; day 996;");
    late.book(0, 996, 1);
    Due.thrown("after night 998", late, Due.STATE, () -> late.extend(0, 3));
    Due.same("to night 998", late.extend(0, 2), 40);
    Due.thrown("from day 999 on", late, Due.STATE, () -> late.extend(0, 1));
    Campground quota = Due.made("class 20 5 0; site 0;");
    quota.book(0, 0, 6);
    Due.thrown("the quota is SOLD OUT too", quota, Due.STATE, () -> quota.extend(0, 1));
    quota.checkIn(0, NONE);
    quota.endDays(1);
    Due.same("until the short window has moved on", quota.extend(0, 1), 20);
  }

  @Says(at = "Promise 31", words = "`nights`: 1 to 28")
  static void extendNights() {
    Campground x = Due.made("class 90 90 9; site 0;");
    x.book(0, 0, 28);
    Due.same("1 night", x.extend(0, 1), 20);
    Due.same("28 nights, though they are 57 then", x.extend(0, 28), 560);
    Due.same("departure", x.departure(0), 57);
    Due.thrown("0 nights", x, Due.ARGUMENT, () -> x.extend(0, 0));
    Due.thrown("29 nights", x, Due.ARGUMENT, () -> x.extend(0, 29));
  }

  @Says(at = "Promise 31", words = "Throws `IndexOutOfBoundsException` if there is no such booking")
  static void extendNoBooking() {
    Edges.noSuchBooking("extend", false, (x, b) -> x.extend(b, 1));
    Edges.noSuchBooking("extend", true, (x, b) -> x.extend(b, 1));
    Campground x = Due.made("class 50 50 9; site 0;");
    Due.thrown("both wrong", x, Due.INDEX, () -> x.extend(0, 0));
  }

  @Says(at = "Promise 31", words = "Throws `IllegalArgumentException` if nights is out of range")
  static void extendWrongNights() {
    Campground x = oneOfEach();
    for (int b = 0; b < 5; b++) {
      int number = b;
      for (int nights : new int[] {Edges.MIN, -1, 0, 29, Edges.MAX}) {
        Due.thrown("also in state " + b, x, Due.ARGUMENT, () -> x.extend(number, nights));
      }
    }
  }

  @Says(at = "Promise 31", words = "Throws `IllegalStateException` if the booking is not active, or there is an obstacle")
  static void extendRefused() {
    Campground each = oneOfEach();
    for (int b : new int[] {2, 3, 4}) {
      Due.thrown("in state " + b, each, Due.STATE, () -> each.extend(b, 1));
    }
    Campground x = Due.made("class 10 10 9; site 0;");
    x.book(0, 0, 2);
    x.book(0, 10, 1);
    Due.thrown("WINDOW", x, Due.STATE, () -> x.extend(1, 1));
    Due.thrown("SOLD OUT", x, Due.STATE, () -> x.extend(0, 9));
    Due.thrown("both", x, Due.STATE, () -> x.extend(0, 28));
    Due.same("neither", x.extend(0, 8), 160);
  }

  /** Bookings of class 1, whose number is their state, on day 2; class 0 has site 0, and class 1 the sites 1 to 5. */
  private static Campground oneOfEach() {
    Campground x = Due.made("class 50 50 9; class 50 50 9; site 0 1 1 1 1 1; day 1;");
    x.book(1, 2, 3);
    x.book(1, 1, 5);
    x.book(1, 1, 1);
    x.book(1, 1, 1);
    x.book(1, 1, 5);
    x.checkIn(1, 2);
    x.checkIn(2, 3);
    x.cancel(3);
    x.endDays(1);
    return x;
  }

  private static Campground sixtyBookings() {
    Campground x = Due.made("class 90 90 9; site 0;");
    for (int b = 0; b < 60; b++) {
      x.book(0, b, 1);
    }
    return x;
  }
}
