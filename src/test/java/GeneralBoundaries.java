import java.util.ArrayList;
import java.util.List;

/** What the document says of all calls, sentence by sentence. */
final class GeneralBoundaries {
  private static final int NONE = Campground.NONE;

  private GeneralBoundaries() {
  }

  @Says(at = "What it is", words = "An object is used for at most 512 calls after it has been made; what later calls "
      + "answer is free.")
  static void fiveHundredAndTwelveCalls() {
    Campground x = new Campground();
    x.addClass(200, 200, 16);
    x.addSite(0);
    // 2 calls are made; 254 pairs of a booking and its end leave the 511th and the 512th call.
    for (int pair = 0; pair < 254; pair++) {
      if (pair < 59) {
        x.cancel(x.book(0, pair, 1));
      } else {
        x.close(0, pair + 1);
        x.open(0);
      }
    }
    Due.same("the 511th call", x.book(0, 5, 2), 59);
    Due.same("the 512th call", x.revenue(), 60 + 10 * 11 + 40);
  }

  @Says(at = "Terms", words = "The class bookings can always be assigned to sites.")
  static void assignable() {
    Campground x = Due.made("class 50 3 2; site 0 0 0;");
    // Booked until nothing is left: three sites in the short window, the quota of two after it.
    for (int arrival = 0; arrival <= 50; arrival += 3) {
      while (x.bookingCount() < 60 && x.longestStay(0, arrival) > 0) {
        x.book(0, arrival, Math.min(3, x.longestStay(0, arrival)));
      }
    }
    for (int b = 0; b < x.bookingCount(); b++) {
      Due.same("a site for " + b, inPlan(x, b, 0) && inPlan(x, b, 1) ? 1 : 0, 1);
    }
    while (x.today() < 50) {
      for (int b = 0; b < x.bookingCount(); b++) {
        if (x.bookingState(b) == 0 && x.arrival(b) == x.today()) {
          Due.same("a vacant site for " + b, x.checkIn(b, NONE) >= 0 ? 1 : 0, 1);
        }
      }
      x.endDays(1);
    }
  }

  private static boolean inPlan(Campground x, int b, int policy) {
    int site = x.planSite(b, policy);
    return site >= 0 && site < 3;
  }

  private record Refused(Class<?> due, Runnable call) {
  }

  @Says(at = "EXCEPTIONS", words = "A method that throws an exception changes nothing.")
  static void nothingIsChanged() {
    Campground x = full();
    Campground untouched = full();
    for (Refused refused : refusedCalls(x)) {
      Due.thrown("refused call", x, refused.due, refused.call);
    }
    // What cannot be asked, as a request's nights or a saved state, is seen by what comes of it.
    List<String> answers = afterlife(x);
    List<String> due = afterlife(untouched);
    for (int i = 0; i < due.size(); i++) {
      Due.same("step " + i + " afterwards", answers.get(i).equals(due.get(i)) ? 1 : 0, 1);
    }
  }

  private static List<String> afterlife(Campground x) {
    List<String> steps = new ArrayList<>();
    steps.add(Due.seen(x));
    steps.add("fill " + x.fill(0) + " " + x.fill(1) + Due.seen(x));
    steps.add("close " + x.open(5) + x.siteOf(0) + x.departEarly(0) + Due.seen(x));
    x.endDays(20);
    steps.add("plan " + x.gapNights(0, 0) + " " + x.gapNights(0, 1) + Due.seen(x));
    x.restore(1);
    steps.add("saved " + x.fill(0) + " " + x.fill(1) + Due.seen(x));
    steps.add("load " + x.load() + Due.seen(x));
    return steps;
  }

  /** Full of classes, sites, seasons and requests, with a text of 500 bytes and one saved state, on day 940. */
  private static Campground full() {
    Campground x = Due.made("class 50 40 9;class 50 40 9;class 50 40 9;class 50 40 9;"
        + "site 0 0 0 0 0 0 0 0 0 0 0 0 0 0 0 1;day 939;");
    for (int s = 0; s < 12; s++) {
      x.addSeason(0, 939 + s, 960, 1 + s % 3, 20 + s);
    }
    x.book(0, 939, 10);
    x.book(0, 939, 1);
    x.book(0, 960, 3);
    x.book(0, 960, 4);
    x.book(1, 940, 2);
    x.checkIn(0, 3);
    x.cancel(3);
    x.close(5, 950);
    for (int r = 0; r < 20; r++) {
      x.request(r % 2, 939 + r, 1 + r % 5);
    }
    x.withdraw(7);
    x.save(1);
    x.endDays(1);
    Due.write(x, "class 9 9 9; site 0 0 0; day 7;" + " ".repeat(469));
    return x;
  }

  @Says(at = "EXCEPTIONS", words = "If several exceptions apply, the one that comes first in the method's list of "
      + "exceptions is thrown.")
  static void firstOfSeveral() {
    Campground x = full();
    List<Refused> calls = refusedCalls(x);
    for (int i = 0; i < calls.size(); i++) {
      Due.thrown("call " + i, x, calls.get(i).due, calls.get(i).call);
    }
  }

  /** Every method that throws: called so that all of its exceptions apply, then so that the first one does not. */
  private static List<Refused> refusedCalls(Campground x) {
    List<Refused> calls = new ArrayList<>();
    calls.add(new Refused(Due.ARGUMENT, () -> x.addClass(0, 0, 0)));
    calls.add(new Refused(Due.STATE, () -> x.addClass(1, 0, 0)));
    calls.add(new Refused(Due.INDEX, () -> x.addSite(4)));
    calls.add(new Refused(Due.STATE, () -> x.addSite(3)));
    calls.add(new Refused(Due.INDEX, () -> x.addSeason(4, -1, 0, 0, -1)));
    calls.add(new Refused(Due.ARGUMENT, () -> x.addSeason(0, -1, 0, 0, -1)));
    calls.add(new Refused(Due.STATE, () -> x.addSeason(0, 0, 999, 14, 9999)));
    calls.add(new Refused(Due.INDEX, () -> x.classOf(16)));
    calls.add(new Refused(Due.INDEX, () -> x.minimum(4, 1000)));
    calls.add(new Refused(Due.ARGUMENT, () -> x.minimum(0, 1000)));
    calls.add(new Refused(Due.INDEX, () -> x.price(4, 1000)));
    calls.add(new Refused(Due.ARGUMENT, () -> x.price(0, 1000)));
    calls.add(new Refused(Due.INDEX, () -> x.capacity(4, 940)));
    calls.add(new Refused(Due.INDEX, () -> x.released(4, 940)));
    calls.add(new Refused(Due.INDEX, () -> x.taken(4, 940)));
    calls.add(new Refused(Due.INDEX, () -> x.available(4, 940)));
    calls.add(new Refused(Due.INDEX, () -> x.obstacle(4, 940, 0)));
    calls.add(new Refused(Due.ARGUMENT, () -> x.obstacle(0, 940, 0)));
    calls.add(new Refused(Due.INDEX, () -> x.longestStay(4, 940)));
    calls.add(new Refused(Due.INDEX, () -> x.cheapestArrival(4, 0, 1, 0)));
    calls.add(new Refused(Due.ARGUMENT, () -> x.cheapestArrival(0, 0, 1, 0)));
    calls.add(new Refused(Due.INDEX, () -> x.nextGap(4, 1000)));
    calls.add(new Refused(Due.ARGUMENT, () -> x.nextGap(0, 1000)));
    refusedBookings(x, calls);
    refusedDaysAndRequests(x, calls);
    refusedFigures(x, calls);
    return calls;
  }

  private static void refusedBookings(Campground x, List<Refused> calls) {
    calls.add(new Refused(Due.INDEX, () -> x.book(4, 939, 0)));
    calls.add(new Refused(Due.ARGUMENT, () -> x.book(0, 939, 0)));
    calls.add(new Refused(Due.STATE, () -> x.book(0, 939, 1)));
    calls.add(new Refused(Due.INDEX, () -> x.bookingState(5)));
    calls.add(new Refused(Due.INDEX, () -> x.bookingClass(5)));
    calls.add(new Refused(Due.INDEX, () -> x.arrival(5)));
    calls.add(new Refused(Due.INDEX, () -> x.departure(5)));
    calls.add(new Refused(Due.INDEX, () -> x.cost(5)));
    calls.add(new Refused(Due.INDEX, () -> x.siteOf(5)));
    calls.add(new Refused(Due.INDEX, () -> x.cancel(5)));
    calls.add(new Refused(Due.STATE, () -> x.cancel(1)));
    calls.add(new Refused(Due.INDEX, () -> x.vacantSite(4)));
    calls.add(new Refused(Due.INDEX, () -> x.checkIn(5, 16)));
    calls.add(new Refused(Due.INDEX, () -> x.checkIn(2, 16)));
    calls.add(new Refused(Due.INDEX, () -> x.checkIn(5, 15)));
    calls.add(new Refused(Due.ARGUMENT, () -> x.checkIn(2, 15)));
    calls.add(new Refused(Due.STATE, () -> x.checkIn(2, 3)));
    calls.add(new Refused(Due.STATE, () -> x.checkIn(2, NONE)));
    calls.add(new Refused(Due.INDEX, () -> x.move(5, 16)));
    calls.add(new Refused(Due.INDEX, () -> x.move(2, 16)));
    calls.add(new Refused(Due.INDEX, () -> x.move(5, 15)));
    calls.add(new Refused(Due.ARGUMENT, () -> x.move(2, 15)));
    calls.add(new Refused(Due.STATE, () -> x.move(2, 3)));
    calls.add(new Refused(Due.STATE, () -> x.move(0, 5)));
    calls.add(new Refused(Due.INDEX, () -> x.departEarly(5)));
    calls.add(new Refused(Due.STATE, () -> x.departEarly(2)));
    calls.add(new Refused(Due.INDEX, () -> x.extend(5, 0)));
    calls.add(new Refused(Due.ARGUMENT, () -> x.extend(3, 0)));
    calls.add(new Refused(Due.STATE, () -> x.extend(3, 28)));
  }

  private static void refusedDaysAndRequests(Campground x, List<Refused> calls) {
    calls.add(new Refused(Due.ARGUMENT, () -> x.endDays(61)));
    calls.add(new Refused(Due.STATE, () -> x.endDays(60)));
    calls.add(new Refused(Due.INDEX, () -> x.close(16, 940)));
    calls.add(new Refused(Due.ARGUMENT, () -> x.close(3, 940)));
    calls.add(new Refused(Due.STATE, () -> x.close(3, 941)));
    calls.add(new Refused(Due.STATE, () -> x.close(5, 960)));
    calls.add(new Refused(Due.INDEX, () -> x.open(16)));
    calls.add(new Refused(Due.STATE, () -> x.open(3)));
    calls.add(new Refused(Due.INDEX, () -> x.request(4, 939, 0)));
    calls.add(new Refused(Due.ARGUMENT, () -> x.request(0, 939, 0)));
    calls.add(new Refused(Due.STATE, () -> x.request(0, 940, 1)));
    calls.add(new Refused(Due.INDEX, () -> x.requestState(20)));
    calls.add(new Refused(Due.INDEX, () -> x.bookingOf(20)));
    calls.add(new Refused(Due.INDEX, () -> x.withdraw(20)));
    calls.add(new Refused(Due.STATE, () -> x.withdraw(7)));
    calls.add(new Refused(Due.INDEX, () -> x.fill(4)));
  }

  private static void refusedFigures(Campground x, List<Refused> calls) {
    calls.add(new Refused(Due.INDEX, () -> x.planSite(5, 2)));
    calls.add(new Refused(Due.ARGUMENT, () -> x.planSite(3, 2)));
    calls.add(new Refused(Due.STATE, () -> x.planSite(3, 1)));
    calls.add(new Refused(Due.INDEX, () -> x.gapNights(4, 2)));
    calls.add(new Refused(Due.ARGUMENT, () -> x.gapNights(0, 2)));
    calls.add(new Refused(Due.INDEX, () -> x.orphanNights(4, 2)));
    calls.add(new Refused(Due.ARGUMENT, () -> x.orphanNights(0, 2)));
    calls.add(new Refused(Due.INDEX, () -> x.occupancyNumerator(4, 939, 999)));
    calls.add(new Refused(Due.ARGUMENT, () -> x.occupancyNumerator(0, 939, 999)));
    calls.add(new Refused(Due.INDEX, () -> x.occupancyDenominator(4, 939, 999)));
    calls.add(new Refused(Due.ARGUMENT, () -> x.occupancyDenominator(0, 939, 999)));
    calls.add(new Refused(Due.INDEX, () -> x.expected(4, 1000, true)));
    calls.add(new Refused(Due.ARGUMENT, () -> x.expected(NONE, 1000, true)));
    calls.add(new Refused(Due.INDEX, () -> x.dearestBooking(4)));
    calls.add(new Refused(Due.INDEX, () -> x.busiestNight(4, 939, 999)));
    calls.add(new Refused(Due.ARGUMENT, () -> x.busiestNight(0, 939, 999)));
    calls.add(new Refused(Due.STATE, () -> x.appendText(0)));
    calls.add(new Refused(Due.ARGUMENT, () -> x.truncateText(501)));
    calls.add(new Refused(Due.ARGUMENT, () -> x.save(2)));
    calls.add(new Refused(Due.ARGUMENT, () -> x.restore(2)));
    calls.add(new Refused(Due.STATE, () -> x.restore(0)));
  }

  @Says(at = "EXCEPTIONS", words = "The constants: `NONE = -1`: There is none.")
  static void none() {
    Due.same("NONE", Campground.NONE, -1);
    Campground x = Due.made("class 9 9 9;");
    Due.same("no vacant site", x.vacantSite(0), -1);
    Due.same("no error", x.errorPosition(), -1);
  }
}
