/** The end of a day, closings, and promises 32 to 35, sentence by sentence. */
final class DaysBoundaries {
  private static final int NONE = Campground.NONE;

  private DaysBoundaries() {
  }

  @Says(at = "CLASSES, SITES AND DAYS", words = "A site can be closed from the present day on until a day; it is closed "
      + "on the nights before this day.")
  static void closedNights() {
    Campground x = Due.made("class 50 50 9; site 0 0; day 10;");
    x.close(0, 12);
    int[][] want = {{9, 0}, {10, 1}, {11, 1}, {12, 2}, {13, 2}};
    for (int[] w : want) {
      Due.same("capacity on " + w[0], x.capacity(0, w[0]), w[1]);
    }
    x.close(1, 11);
    Due.same("one night alone", x.capacity(0, 10), 0);
    Due.same("the next night", x.capacity(0, 11), 1);
  }

  @Says(at = "THE END OF A DAY", words = "When the present day d ends: every BOOKED booking that arrives on d or earlier "
      + "becomes ABSENT; the present day becomes d + 1; every STAYING booking that departs on d + 1 becomes DONE; "
      + "closings until day d + 1 are over; and waiting requests that arrive before day d + 1 expire.")
  static void endOfADay() {
    Campground x = busyDay();
    Due.same("the day after 3", x.endDays(1), 4);
    afterDayThree(x);
    x.endDays(1);
    Due.same("arrived on 4, never came", x.bookingState(1), 4);
    Due.same("departed on 5", x.bookingState(3), 2);
    Due.same("closed until 5", x.capacity(0, 5), 8);
    Due.same("waited for 4", x.requestState(1), 3);
    Campground two = busyDay();
    two.endDays(2);
    Due.same("two days at once", Due.seen(two).equals(Due.seen(x)) ? 1 : 0, 1);
  }

  private static void afterDayThree(Campground x) {
    Due.same("arrived on 3, never came", x.bookingState(0), 4);
    Due.same("arrives on 4", x.bookingState(1), 0);
    Due.same("departs on 4", x.bookingState(2), 2);
    Due.same("departs on 5", x.bookingState(3), 1);
    Due.same("CANCELLED for ever", x.bookingState(4), 3);
    Due.same("closed until 4, closed until 5", x.capacity(0, 4), 7);
    Due.thrown("the first closing is over", x, Due.STATE, () -> x.open(6));
    Due.same("waited for 3", x.requestState(0), 3);
    Due.same("waits for 4", x.requestState(1), 0);
    Due.same("WITHDRAWN for ever", x.requestState(2), 2);
    Due.same("BOOKED for ever", x.requestState(3), 1);
  }

  /** Day 3, with arrivals, departures, closings and requests on both sides of its end. */
  private static Campground busyDay() {
    Campground x = Due.made("class 50 50 9; class 50 50 9; site 0 0 0 0 0 0 0 0 1; day 3;");
    x.book(0, 3, 5);
    x.book(0, 4, 5);
    x.book(0, 3, 1);
    x.book(0, 3, 2);
    x.book(0, 3, 1);
    x.checkIn(2, 0);
    x.checkIn(3, 1);
    x.cancel(4);
    x.close(6, 4);
    x.close(7, 5);
    x.request(0, 3, 1);
    x.request(0, 4, 1);
    x.request(0, 3, 1);
    x.request(1, 3, 1);
    x.withdraw(2);
    x.fill(1);
    return x;
  }

  @Says(at = "Promise 32", words = "`days`: 1 to 60")
  static void mostDays() {
    Campground x = new Campground();
    Due.same("1 day", x.endDays(1), 1);
    Due.same("60 days", x.endDays(60), 61);
    Due.thrown("0 days", x, Due.ARGUMENT, () -> x.endDays(0));
    Due.thrown("61 days", x, Due.ARGUMENT, () -> x.endDays(61));
  }

  @Says(at = "Promise 32", words = "Returns the present day then.")
  static void theDayThen() {
    Campground x = Due.made("day 938;");
    Due.same("endDays(60)", x.endDays(60), 998);
    Due.same("today", x.today(), 998);
    Due.same("endDays(1)", x.endDays(1), 999);
    Due.same("today", x.today(), 999);
  }

  @Says(at = "Promise 32", words = "Throws `IllegalArgumentException` if days is out of range")
  static void wrongDays() {
    Edges.range("days", "", 1, 60, (x, days) -> x.endDays(days));
    Campground last = Due.made("day 999;");
    for (int days : new int[] {Edges.MIN, -1, 0, 61, Edges.MAX}) {
      Due.thrown("also on day 999", last, Due.ARGUMENT, () -> last.endDays(days));
    }
  }

  @Says(at = "Promise 32", words = "Throws `IllegalStateException` if the present day would be greater than 999")
  static void afterTheLastDay() {
    for (int days : new int[] {1, 2, 59, 60}) {
      Campground x = Due.made("class 9 9 9; site 0; day " + (1000 - days) + ";");
      Due.thrown("to day 1000 by " + days, x, Due.STATE, () -> x.endDays(days));
      Campground just = Due.made("day " + (999 - days) + ";");
      Due.same("to day 999 by " + days, just.endDays(days), 999);
      Due.thrown("not further", just, Due.STATE, () -> just.endDays(1));
    }
    Campground guests = Due.made("class 9 9 9; site 0 0; day 997;");
    guests.book(0, 997, 1);
    guests.request(0, 997, 1);
    guests.close(1, 998);
    Due.thrown("not even the days that there are", guests, Due.STATE, () -> guests.endDays(3));
  }

  @Says(at = "Promise 33", words = "Returns the present day.")
  static void today() {
    Due.same("the first day", new Campground().today(), 0);
    Due.same("the last day", Due.made("day 999;").today(), 999);
  }

  @Says(at = "Promise 34", words = "Closes a site from the present day on.")
  static void closesFromToday() {
    Campground x = Due.made("class 50 50 9; site 0; day 10;");
    x.close(0, 20);
    Due.same("tonight", x.vacantSite(0), NONE);
    Due.same("the first night", x.available(0, 10), 0);
    Due.same("the last night", x.available(0, 19), 0);
    Due.same("the night after it", x.available(0, 20), 1);
  }

  @Says(at = "Promise 34", words = "`until`: the first day on which it is open again, present day + 1 to 999")
  static void until() {
    for (int day : new int[] {0, 500, 997, 998}) {
      Edges.range("until", "class 9 9 9; site 0; day " + day + ";", day + 1, 999, (x, until) -> x.close(0, until));
    }
    Campground x = Due.made("class 9 9 9; site 0; day 5;");
    x.close(0, 999);
    Due.same("night 998 is closed", x.capacity(0, 998), 0);
    x.endDays(1);
    Due.same("its last day", x.open(0), 999);
    Campground short1 = Due.made("class 9 9 9; site 0; day 5;");
    short1.close(0, 6);
    Due.same("tonight", short1.capacity(0, 5), 0);
    short1.endDays(1);
    Due.same("the first day on which it is open", short1.vacantSite(0), 0);
  }

  @Says(at = "Promise 34", words = "Throws `IndexOutOfBoundsException` if there is no such site")
  static void closeNoSite() {
    Edges.noSuchSite("close", (x, s) -> x.close(s, 1));
    Campground x = Due.made("class 9 9 9; site 0;");
    Due.thrown("both wrong", x, Due.INDEX, () -> x.close(1, 0));
    Due.thrown("both wrong, 1000", x, Due.INDEX, () -> x.close(-1, 1000));
  }

  @Says(at = "Promise 34", words = "Throws `IllegalArgumentException` if until is out of range")
  static void closeUntilWrongDay() {
    Campground x = Due.made("class 9 9 9; site 0 0; day 5;");
    x.book(0, 5, 1);
    x.checkIn(0, 0);
    x.close(1, 8);
    for (int until : new int[] {Edges.MIN, -1, 0, 4, 5, 1000, Edges.MAX}) {
      Due.thrown("also with guests, until " + until, x, Due.ARGUMENT, () -> x.close(0, until));
      Due.thrown("also if it is closed, until " + until, x, Due.ARGUMENT, () -> x.close(1, until));
    }
    Campground last = Due.made("class 9 9 9; site 0; day 999;");
    for (int until : new int[] {998, 999, 1000, 1001}) {
      Due.thrown("on day 999, until " + until, last, Due.ARGUMENT, () -> last.close(0, until));
    }
  }

  @Says(at = "Promise 34", words = "Throws `IllegalStateException` if the site is closed or somebody is STAYING there, or "
      + "on one of these nights the capacity of its class is not greater than the number of taken ones")
  static void closeRefused() {
    Campground x = Due.made("class 50 50 9; site 0 0 0;");
    x.close(0, 3);
    Due.thrown("it is closed, for longer", x, Due.STATE, () -> x.close(0, 4));
    Due.thrown("it is closed, for as long", x, Due.STATE, () -> x.close(0, 3));
    x.book(0, 0, 1);
    x.checkIn(0, 1);
    Due.thrown("somebody is STAYING there", x, Due.STATE, () -> x.close(1, 1));
    x.endDays(1);
    x.close(1, 2);
    Due.same("they have departed", x.capacity(0, 1), 1);
    x.endDays(2);
    x.close(0, 4);
    Due.same("closed again when the closing is over", x.capacity(0, 3), 2);
    Campground taken = Due.made("class 50 50 9; class 50 50 9; site 0 0 1;");
    taken.book(0, 5, 1);
    taken.book(0, 5, 1);
    taken.book(0, 6, 1);
    Due.thrown("capacity 2, taken 2 on the last night", taken, Due.STATE, () -> taken.close(0, 6));
    Due.thrown("on a night between", taken, Due.STATE, () -> taken.close(0, 30));
    taken.close(2, 30);
    taken.close(0, 5);
    Due.same("up to that night", taken.capacity(0, 4), 1);
    taken.open(0);
    taken.cancel(1);
    taken.close(0, 7);
    Due.same("capacity 2, taken 1", taken.capacity(0, 5), 1);
    Due.thrown("capacity 1, taken 1", taken, Due.STATE, () -> taken.close(1, 6));
    taken.close(1, 5);
    Due.same("capacity 1, taken 0", taken.capacity(0, 4), 0);
    Campground tonight = Due.made("class 50 50 9; site 0 0;");
    tonight.book(0, 0, 1);
    tonight.book(0, 0, 1);
    Due.thrown("all taken tonight, though nobody is there", tonight, Due.STATE, () -> tonight.close(0, 1));
  }

  @Says(at = "Promise 35", words = "Returns the day until which it was closed.")
  static void openAgain() {
    Campground x = Due.made("class 50 50 9; site 0 0; day 4;");
    x.close(0, 5);
    x.close(1, 999);
    Due.same("a day", x.open(0), 5);
    Due.same("to the end", x.open(1), 999);
    Due.same("both are open", x.capacity(0, 4), 2);
    Due.same("to the end", x.capacity(0, 998), 2);
  }

  @Says(at = "Promise 35", words = "Throws `IndexOutOfBoundsException` if there is no such site")
  static void openNoSite() {
    Edges.noSuchSite("close and open", (x, s) -> {
      if (s >= 0 && s < x.siteCount()) {
        x.close(s, 5);
      }
      x.open(s);
    });
  }

  @Says(at = "Promise 35", words = "Throws `IllegalStateException` if it is not closed")
  static void openRefused() {
    Campground x = Due.made("class 50 50 9; site 0 0;");
    Due.thrown("never closed", x, Due.STATE, () -> x.open(0));
    x.close(0, 2);
    Due.thrown("the other one", x, Due.STATE, () -> x.open(1));
    x.endDays(1);
    Due.same("on its last closed night", x.open(0), 2);
    Due.thrown("opened already", x, Due.STATE, () -> x.open(0));
    x.close(0, 2);
    x.endDays(1);
    Due.thrown("the closing is over", x, Due.STATE, () -> x.open(0));
  }
}
