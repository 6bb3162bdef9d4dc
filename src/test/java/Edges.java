/** Numbers of classes, sites, bookings and requests just outside and just inside of what there is. */
final class Edges {
  static final int MIN = Integer.MIN_VALUE;
  static final int MAX = Integer.MAX_VALUE;

  interface Call {
    void on(Campground x, int number);
  }

  private Edges() {
  }

  /** A setup with so many classes, and a site for each of them. */
  static String classes(int count) {
    return "class 50 50 5;".repeat(count) + "site" + " 0 1 2 3".substring(0, 2 * count) + ";";
  }

  static void noSuchClass(String name, Call call) {
    Campground empty = new Campground();
    Due.thrown(name + " without classes", empty, Due.INDEX, () -> call.on(empty, 0));
    for (int count = 1; count <= 4; count++) {
      Campground x = Due.made(classes(count));
      refused(name, x, call, count);
      accepted(name, x, call, 0);
      accepted(name, Due.made(classes(count)), call, count - 1);
    }
    Campground replaced = Due.made(classes(4));
    Due.write(replaced, classes(1));
    replaced.load();
    refused(name + " after another setup", replaced, call, 1);
  }

  /** Sites of one class, all of them open and empty. */
  static void noSuchSite(String name, Call call) {
    Campground empty = Due.made("class 50 50 5;");
    Due.thrown(name + " without sites", empty, Due.INDEX, () -> call.on(empty, 0));
    for (int count : new int[] {1, 2, 16}) {
      String setup = "class 50 50 5; site" + " 0".repeat(count) + ";";
      refused(name, Due.made(setup), call, count);
      accepted(name, Due.made(setup), call, 0);
      accepted(name, Due.made(setup), call, count - 1);
    }
  }

  /** Bookings, the last of which arrives today; it is BOOKED, or STAYING at site 0. */
  static void noSuchBooking(String name, boolean staying, Call call) {
    Campground empty = Due.made("class 90 90 1; site 0 0;");
    Due.thrown(name + " without bookings", empty, Due.INDEX, () -> call.on(empty, 0));
    for (int count : new int[] {1, 2, 60}) {
      Campground x = Due.made("class 90 90 1; site 0 0;");
      for (int b = 1; b < count; b++) {
        x.book(0, b + 5, 1);
      }
      x.book(0, 0, 1);
      if (staying) {
        x.checkIn(count - 1, 0);
      }
      refused(name, x, call, count);
      accepted(name, x, call, count - 1);
    }
  }

  static void noSuchRequest(String name, Call call) {
    Campground empty = Due.made("class 90 90 1; site 0;");
    Due.thrown(name + " without requests", empty, Due.INDEX, () -> call.on(empty, 0));
    for (int count : new int[] {1, 2, 20}) {
      Campground x = Due.made("class 90 90 1; site 0;");
      for (int r = 0; r < count; r++) {
        x.request(0, r, 1);
      }
      refused(name, x, call, count);
      accepted(name, x, call, count - 1);
    }
  }

  /** A number from low to high: both are allowed, their neighbours and the ends of int are not. */
  static void range(String name, String setup, int low, int high, Call call) {
    Campground x = Due.made(setup);
    int[] outside = {low - 1, high + 1, MIN, MAX};
    for (int wrong : outside) {
      Due.thrown(name + " " + wrong, x, Due.ARGUMENT, () -> call.on(x, wrong));
    }
    accepted(name, Due.made(setup), call, low);
    accepted(name, Due.made(setup), call, high);
  }

  private static void refused(String name, Campground x, Call call, int count) {
    for (int wrong : new int[] {MIN, -2, -1, count, count + 1, MAX}) {
      Due.thrown(name + " " + wrong + " of " + count, x, Due.INDEX, () -> call.on(x, wrong));
    }
  }

  private static void accepted(String name, Campground x, Call call, int number) {
    Class<?> got = null;
    try {
      call.on(x, number);
    } catch (RuntimeException e) {
      got = e.getClass();
    }
    Due.same(name + " " + number + " threw " + got, got == null ? 0 : 1, 0);
  }
}
