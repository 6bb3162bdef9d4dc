/** Promises 32 to 35: days and closings. */
public final class DaysTest {
  public static void main(String[] args) {
    endDays();
    lastDay();
    statesAtTheEndOfADay();
    close();
    closeAndTaken();
    open();
    Due.end();
  }

  private static void endDays() {
    Campground x = new Campground();
    for (int days : new int[] {0, -1, 61, Integer.MIN_VALUE, Integer.MAX_VALUE}) {
      Due.thrown("endDays(" + days + ")", x, Due.ARGUMENT, () -> x.endDays(days));
    }
    Due.same("endDays(1)", x.endDays(1), 1);
    Due.same("today", x.today(), 1);
    Due.same("endDays(60)", x.endDays(60), 61);
    Due.same("today", x.today(), 61);
  }

  private static void lastDay() {
    Campground x = Due.made("day 940;");
    Due.thrown("to day 1000", x, Due.STATE, () -> x.endDays(60));
    Due.same("to day 999", x.endDays(59), 999);
    Due.thrown("after day 999", x, Due.STATE, () -> x.endDays(1));
    Due.thrown("after day 999, wrong", x, Due.ARGUMENT, () -> x.endDays(61));
    Due.same("today", x.today(), 999);
  }

  private static void statesAtTheEndOfADay() {
    Campground x = Due.made("class 50 50 1; site 0 0 0 0 0 0;");
    x.book(0, 0, 1);
    x.book(0, 0, 2);
    x.book(0, 0, 3);
    x.book(0, 1, 3);
    x.request(0, 0, 1);
    x.request(0, 1, 1);
    x.request(0, 0, 2);
    x.withdraw(2);
    x.checkIn(0, -1);
    x.checkIn(1, -1);
    x.close(2, 1);
    x.close(3, 2);
    x.endDays(1);
    int[] first = {2, 1, 4, 0};
    for (int b = 0; b < 4; b++) {
      Due.same("state of " + b + " on day 1", x.bookingState(b), first[b]);
    }
    Due.same("request 0 expires", x.requestState(0), 3);
    Due.same("request 1 waits", x.requestState(1), 0);
    Due.same("request 2 stays withdrawn", x.requestState(2), 2);
    Due.same("one closing is over", x.capacity(0, 1), 5);
    Due.thrown("it cannot be opened", x, Due.STATE, () -> x.open(2));
    x.endDays(1);
    int[] second = {2, 2, 4, 4};
    for (int b = 0; b < 4; b++) {
      Due.same("state of " + b + " on day 2", x.bookingState(b), second[b]);
    }
    Due.same("request 1 expires", x.requestState(1), 3);
    Due.same("the other closing is over", x.capacity(0, 2), 6);
    Due.same("costs stay", x.revenue(), 20 + 40 + 60 + 60);
    Due.same("the site stays", x.siteOf(1), 1);
    Due.same("ABSENT has no site", x.siteOf(2), -1);

    Campground many = Due.made("class 50 50 1; site 0 0;");
    many.book(0, 0, 3);
    many.checkIn(0, -1);
    many.book(0, 5, 3);
    many.endDays(8);
    Due.same("several days at once", many.bookingState(0), 2);
    Due.same("several days at once, ABSENT", many.bookingState(1), 4);
  }

  private static void close() {
    Campground x = Due.made("class 50 50 1; class 50 50 1; site 0 0 1; day 7;");
    Due.thrown("no such site", x, Due.INDEX, () -> x.close(3, 8));
    Due.thrown("site -1", x, Due.INDEX, () -> x.close(-1, 8));
    for (int until : new int[] {7, 6, 0, -1, 1000, Integer.MIN_VALUE, Integer.MAX_VALUE}) {
      Due.thrown("until " + until, x, Due.ARGUMENT, () -> x.close(0, until));
      Due.thrown("both wrong", x, Due.INDEX, () -> x.close(3, until));
    }
    x.close(0, 8);
    Due.same("tonight only", x.capacity(0, 7), 1);
    Due.same("not the next night", x.capacity(0, 8), 2);
    Due.thrown("it is closed", x, Due.STATE, () -> x.close(0, 20));
    Due.thrown("it is closed, and the day is wrong", x, Due.ARGUMENT, () -> x.close(0, 7));
    x.endDays(1);
    x.close(0, 999);
    Due.same("the last night", x.capacity(0, 998), 1);
    x.book(0, 8, 1);
    x.checkIn(0, -1);
    Due.thrown("somebody is STAYING there", x, Due.STATE, () -> x.close(1, 10));
    Due.same("a site of another class", x.vacantSite(1), 2);
    x.close(2, 10);
    Due.same("is closed then", x.vacantSite(1), -1);
    Campground end = Due.made("class 9 9 9; site 0; day 999;");
    Due.thrown("no day is left", end, Due.ARGUMENT, () -> end.close(0, 999));
    Due.thrown("no day is left, 1000", end, Due.ARGUMENT, () -> end.close(0, 1000));
  }

  private static void closeAndTaken() {
    Campground x = Due.made("class 50 50 1; class 50 50 1; site 0 0 1 1;");
    x.book(0, 3, 2);
    x.book(0, 4, 1);
    x.book(1, 1, 1);
    x.book(1, 1, 1);
    Due.thrown("night 4 is taken twice", x, Due.STATE, () -> x.close(0, 5));
    x.close(0, 4);
    Due.thrown("night 3 needs the other one", x, Due.STATE, () -> x.close(1, 4));
    x.close(1, 3);
    Due.same("both are closed", x.capacity(0, 0), 0);
    x.open(0);
    x.cancel(1);
    x.close(0, 3);
    Due.same("both again", x.capacity(0, 2), 0);
    Due.same("open on night 3", x.capacity(0, 3), 2);
    Due.thrown("class 1 counts for itself", x, Due.STATE, () -> x.close(2, 2));
    x.close(2, 1);

    Campground staying = Due.made("class 50 50 1; site 0 0 0;");
    staying.book(0, 0, 4);
    staying.checkIn(0, 2);
    staying.close(0, 9);
    Due.thrown("one is needed by its guests", staying, Due.STATE, () -> staying.close(2, 9));
    staying.book(0, 3, 1);
    Due.thrown("the last free one on night 3", staying, Due.STATE, () -> staying.close(1, 4));
    staying.close(1, 3);
    Due.same("all but one", staying.capacity(0, 2), 1);
  }

  private static void open() {
    Campground x = Due.made("class 50 50 1; site 0 0;");
    Due.thrown("not closed", x, Due.STATE, () -> x.open(0));
    Due.thrown("no such site", x, Due.INDEX, () -> x.open(2));
    Due.thrown("site -1", x, Due.INDEX, () -> x.open(-1));
    x.close(0, 17);
    Due.thrown("the other one", x, Due.STATE, () -> x.open(1));
    x.endDays(5);
    Due.same("open(0)", x.open(0), 17);
    Due.same("capacity then", x.capacity(0, 5), 2);
    Due.thrown("twice", x, Due.STATE, () -> x.open(0));
    x.close(0, 8);
    Due.same("closed and opened again", x.open(0), 8);
    x.close(0, 8);
    x.endDays(3);
    Due.thrown("the closing is over", x, Due.STATE, () -> x.open(0));
    x.close(0, 9);
    Due.same("closed again", x.capacity(0, 8), 1);
  }
}
