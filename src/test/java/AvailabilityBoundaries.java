/** Availability and obstacles, and promises 10 to 17, sentence by sentence. */
final class AvailabilityBoundaries {
  private static final int[] NO_NIGHTS = {Edges.MIN, -1000, -1, 999, 1000, Edges.MAX};

  private AvailabilityBoundaries() {
  }

  @Says(at = "AVAILABILITY", words = "For a class and a night from the present day on:")
  static void fromThePresentDayOn() {
    for (int day : new int[] {0, 1, 500, 998}) {
      Campground x = Due.made("class 9 9 9; site 0 0; day " + day + ";");
      Due.same("capacity tonight", x.capacity(0, day), 2);
      Due.same("released tonight", x.released(0, day), 2);
      Due.same("available tonight", x.available(0, day), 2);
      Due.same("capacity last night", x.capacity(0, day - 1), 0);
      Due.same("released last night", x.released(0, day - 1), 0);
      Due.same("available last night", x.available(0, day - 1), 0);
    }
  }

  @Says(at = "AVAILABILITY", words = "the capacity is the number of its sites that are not closed on this night;")
  static void capacity() {
    Campground none = Due.made("class 9 9 9; class 9 9 9; site 1;");
    Due.same("no site", none.capacity(0, 0), 0);
    Campground full = Due.made("class 9 9 9; site 0 0 0 0 0 0 0 0 0 0 0 0 0 0 0 0;");
    Due.same("16 sites", full.capacity(0, 998), 16);
    for (int s = 0; s < 16; s++) {
      full.close(s, 5 + s);
    }
    Due.same("all are closed", full.capacity(0, 0), 0);
    Due.same("the last night of the first closing", full.capacity(0, 4), 0);
    Due.same("the first one is open", full.capacity(0, 5), 1);
    Due.same("the last one is closed", full.capacity(0, 19), 15);
    Due.same("all are open", full.capacity(0, 20), 16);
  }

  @Says(at = "AVAILABILITY", words = "released are as many as the capacity if the night is at most the short window "
      + "after the present day; if it is later, but at most the window after the present day, as many as the capacity "
      + "or the quota, whichever is less; and none after that;")
  static void released() {
    Campground x = Due.made("class 10 3 1; class 10 3 2; class 10 3 3; class 10 0 1;"
        + "site 0 0 1 1 2 2 3 3; day 100;");
    int[][] want = {{100, 2, 2, 2, 2}, {101, 2, 2, 2, 1}, {103, 2, 2, 2, 1}, {104, 1, 2, 2, 1}, {110, 1, 2, 2, 1},
        {111, 0, 0, 0, 0}};
    for (int[] w : want) {
      for (int c = 0; c < 4; c++) {
        Due.same("released(" + c + ", " + w[0] + ")", x.released(c, w[0]), w[1 + c]);
      }
    }
    x.close(2, 104);
    x.close(4, 105);
    x.close(5, 105);
    Due.same("capacity in the short window", x.released(1, 103), 1);
    Due.same("quota and capacity after it", x.released(1, 104), 2);
    Due.same("no capacity", x.released(2, 104), 0);
    x.endDays(1);
    Due.same("the short window moves on", x.released(0, 104), 2);
    Due.same("not further", x.released(0, 105), 1);
    Due.same("the window moves on", x.released(0, 111), 1);
    Due.same("the window, not further", x.released(0, 112), 0);
  }

  @Says(at = "AVAILABILITY", words = "taken is the number of active bookings of the class that cover the night;")
  static void taken() {
    Campground x = Due.made("class 50 50 9; class 50 50 9; site 0 0 1;");
    x.book(0, 5, 3);
    x.book(0, 8, 1);
    x.book(1, 5, 1);
    int[] want = {0, 1, 1, 1, 1, 0};
    for (int i = 0; i < want.length; i++) {
      Due.same("taken(0, " + (4 + i) + ")", x.taken(0, 4 + i), want[i]);
    }
    x.book(0, 7, 2);
    Due.same("two cover night 7", x.taken(0, 7), 2);
    Due.same("two cover night 8", x.taken(0, 8), 2);
    Due.same("the other class", x.taken(1, 5), 1);
    Due.same("the other class, the departure day", x.taken(1, 6), 0);
  }

  @Says(at = "AVAILABILITY", words = "available is released minus taken, but at least 0.")
  static void available() {
    Campground x = Due.made("class 10 10 9; site 0 0;");
    x.book(0, 0, 3);
    Due.same("one of two", x.available(0, 0), 1);
    x.book(0, 0, 3);
    Due.same("none of two", x.available(0, 0), 0);
    x.checkIn(0, 0);
    x.checkIn(1, 1);
    x.endDays(1);
    Due.same("nothing is released for last night", x.released(0, 0), 0);
    Due.same("two have taken it", x.taken(0, 0), 2);
    Due.same("at least 0", x.available(0, 0), 0);
  }

  @Says(at = "AVAILABILITY", words = "For nights before the present day or after day 998, the capacity, released and "
      + "available are 0.")
  static void outsideOfTheNights() {
    Campground late = Due.made("class 200 200 16; site 0; day 998;");
    for (int night : new int[] {997, 999, Edges.MIN, Edges.MAX}) {
      nothing(late, night);
    }
    Due.same("capacity on 998", late.capacity(0, 998), 1);
    Due.same("released on 998", late.released(0, 998), 1);
    Due.same("available on 998", late.available(0, 998), 1);
    late.endDays(1);
    for (int night = 997; night <= 1001; night++) {
      nothing(late, night);
    }
  }

  private static void nothing(Campground x, int night) {
    Due.same("capacity on " + night, x.capacity(0, night), 0);
    Due.same("released on " + night, x.released(0, night), 0);
    Due.same("available on " + night, x.available(0, night), 0);
  }

  @Says(at = "AVAILABILITY", words = "(Night 998 ends on day 999.)")
  static void lastNight() {
    Campground x = Due.made("class 200 200 16; site 0; day 998;");
    Due.same("it can be booked", x.book(0, 998, 1), 0);
    Due.same("its departure", x.departure(0), 999);
    x.checkIn(0, 0);
    x.endDays(1);
    Due.same("it is DONE on day 999", x.bookingState(0), 2);
  }

  @Says(at = "OBSTACLES", words = "A stay of a class, with an arrival day a and a number n of nights (1 to 28), has one "
      + "of these obstacles, checked in this order:")
  static void obstaclesInOrder() {
    Campground x = Due.made("class 40 40 9; site 0; season 0 0 99 14 20; day 10;");
    x.book(0, 20, 14);
    Due.same("all three: before the present day", x.obstacle(0, 9, 12), 1);
    Due.same("WINDOW and SOLD OUT", x.obstacle(0, 33, 19), 1);
    Due.same("SOLD OUT and TOO SHORT", x.obstacle(0, 18, 3), 2);
    Due.same("TOO SHORT alone", x.obstacle(0, 18, 1), 3);
    Due.same("none", x.obstacle(0, 34, 14), 0);
    Due.thrown("0 nights", x, Due.ARGUMENT, () -> x.obstacle(0, 34, 0));
    Due.thrown("29 nights", x, Due.ARGUMENT, () -> x.obstacle(0, 34, 29));
    Campground free = Due.made("class 40 40 9; site 0;");
    Due.same("1 night", free.obstacle(0, 0, 1), 0);
    Due.same("28 nights", free.obstacle(0, 0, 28), 0);
  }

  @Says(at = "OBSTACLES", words = "1 WINDOW a is before the present day, or one of its nights is more than the window "
      + "after the present day or after day 998")
  static void windowObstacle() {
    Campground x = Due.made("class 30 30 9; site 0; day 100;");
    int[][] want = {{99, 1, 1}, {99, 2, 1}, {100, 1, 0}, {100, 28, 0}, {103, 28, 0}, {104, 28, 1}, {130, 1, 0},
        {130, 2, 1}, {131, 1, 1}, {129, 2, 0}, {Edges.MIN, 28, 1}, {Edges.MAX, 28, 1}, {Edges.MAX - 27, 28, 1},
        {-1, 28, 1}};
    expect(x, want);
    Campground late = Due.made("class 200 200 9; site 0; day 990;");
    expect(late, new int[][] {{998, 1, 0}, {998, 2, 1}, {997, 2, 0}, {999, 1, 1}, {990, 9, 0}, {990, 10, 1},
        {989, 1, 1}});
    Campground over = Due.made("class 200 200 9; site 0; day 999;");
    expect(over, new int[][] {{998, 1, 1}, {999, 1, 1}, {1000, 1, 1}});
  }

  private static void expect(Campground x, int[][] want) {
    for (int[] w : want) {
      Due.same("obstacle(0, " + w[0] + ", " + w[1] + ")", x.obstacle(0, w[0], w[1]), w[2]);
    }
  }

  @Says(at = "OBSTACLES", words = "2 SOLD OUT a night is not available")
  static void soldOut() {
    Campground x = Due.made("class 30 30 9; site 0;");
    x.book(0, 10, 2);
    expect(x, new int[][] {{9, 1, 0}, {9, 2, 2}, {10, 1, 2}, {11, 1, 2}, {11, 5, 2}, {12, 1, 0}, {5, 5, 0}, {5, 6, 2},
        {5, 20, 2}});
    expect(Due.made("class 30 30 9;"), new int[][] {{0, 1, 2}, {30, 1, 2}, {31, 1, 1}});
    expect(Due.made("class 30 5 0; site 0;"), new int[][] {{5, 1, 0}, {6, 1, 2}, {4, 3, 2}, {30, 1, 2}, {31, 1, 1}});
    Campground closed = Due.made("class 30 30 9; site 0;");
    closed.close(0, 4);
    expect(closed, new int[][] {{0, 1, 2}, {3, 1, 2}, {3, 2, 2}, {4, 1, 0}});
  }

  @Says(at = "OBSTACLES", words = "3 TOO SHORT n is less than the minimum of the class on day a, and the stay does not "
      + "fill a gap; it fills a gap if neither night a - 1 nor night a + n is available")
  static void tooShort() {
    Campground x = Due.made("class 30 30 9; class 30 30 9; site 0 1; season 0 12 13 3 20; season 1 0 99 9 20; day 10;");
    expect(x, new int[][] {{11, 1, 0}, {11, 2, 0}, {12, 1, 3}, {12, 2, 3}, {12, 3, 0}, {13, 2, 3}, {13, 3, 0},
        {14, 1, 0}});
    x.book(0, 10, 2);
    expect(x, new int[][] {{12, 2, 3}});
    x.book(0, 14, 1);
    expect(x, new int[][] {{12, 2, 0}, {12, 1, 3}, {13, 1, 3}});
    Campground today = Due.made("class 30 30 9; site 0; season 0 0 99 3 20; day 10;");
    expect(today, new int[][] {{10, 2, 3}});
    today.book(0, 12, 3);
    expect(today, new int[][] {{10, 2, 0}, {10, 1, 3}, {11, 1, 3}});
    Campground window = Due.made("class 30 30 9; site 0; season 0 0 99 3 20;");
    window.book(0, 26, 3);
    expect(window, new int[][] {{29, 2, 0}, {29, 1, 3}, {30, 1, 3}});
    Campground end = Due.made("class 30 30 9; site 0; season 0 0 999 4 20; day 992;");
    end.book(0, 992, 4);
    expect(end, new int[][] {{996, 3, 0}, {996, 2, 3}, {997, 2, 3}});
  }

  @Says(at = "OBSTACLES", words = "0 there is no obstacle")
  static void noObstacle() {
    Campground x = Due.made("class 1 1 1; site 0;");
    expect(x, new int[][] {{0, 1, 0}, {0, 2, 0}, {1, 1, 0}, {0, 3, 1}});
    Campground greatest = Due.made("class 200 200 1; site 0; season 0 0 999 14 20;");
    expect(greatest, new int[][] {{0, 14, 0}, {0, 28, 0}, {173, 28, 0}, {174, 28, 1}, {187, 14, 0}, {187, 13, 3}});
  }

  @Says(at = "Promise 10", words = "`night`: any number")
  static void capacityOnAnyNight() {
    Campground x = Due.made("class 9 9 9; site 0 0;");
    for (int night : NO_NIGHTS) {
      Due.same("capacity on " + night, x.capacity(0, night), 0);
    }
    Due.same("capacity on 0", x.capacity(0, 0), 2);
    Due.same("capacity on 998", x.capacity(0, 998), 2);
  }

  @Says(at = "Promise 10", words = "Throws `IndexOutOfBoundsException` if there is no such class")
  static void capacityOfNoClass() {
    Edges.noSuchClass("capacity", (x, c) -> x.capacity(c, 0));
    Edges.noSuchClass("capacity", (x, c) -> x.capacity(c, Edges.MIN));
  }

  @Says(at = "Promise 11", words = "`night`: any number")
  static void releasedOnAnyNight() {
    for (int day : new int[] {0, 990, 999}) {
      Campground x = Due.made("class 200 200 16; site 0 0; day " + day + ";");
      for (int night : NO_NIGHTS) {
        Due.same("released on " + night, x.released(0, night), 0);
      }
      Due.same("far behind the present day", x.released(0, Edges.MIN + day), 0);
    }
  }

  @Says(at = "Promise 11", words = "Throws `IndexOutOfBoundsException` if there is no such class")
  static void releasedOfNoClass() {
    Edges.noSuchClass("released", (x, c) -> x.released(c, 0));
    Edges.noSuchClass("released", (x, c) -> x.released(c, Edges.MAX));
  }

  @Says(at = "Promise 12", words = "`night`: any number")
  static void takenOnAnyNight() {
    Campground x = Due.made("class 200 200 16; site 0 0; day 998;");
    x.book(0, 998, 1);
    for (int night : NO_NIGHTS) {
      Due.same("taken on " + night, x.taken(0, night), 0);
    }
    Due.same("taken on 998", x.taken(0, 998), 1);
    Campground first = Due.made("class 200 200 16; site 0 0;");
    first.book(0, 0, 28);
    for (int night : NO_NIGHTS) {
      Due.same("taken on " + night, first.taken(0, night), 0);
    }
  }

  @Says(at = "Promise 12", words = "Returns how many active bookings of the class cover the night.")
  static void takenByActiveBookings() {
    Campground x = Due.made("class 50 50 9; site 0 0 0 0;");
    Due.same("none", x.taken(0, 2), 0);
    for (int b = 0; b < 4; b++) {
      x.book(0, 0, 3);
    }
    Due.same("all are BOOKED", x.taken(0, 2), 4);
    x.cancel(3);
    Due.same("one is CANCELLED", x.taken(0, 2), 3);
    x.checkIn(0, 0);
    x.checkIn(1, 1);
    Due.same("two are STAYING", x.taken(0, 2), 3);
    x.endDays(1);
    Due.same("one is ABSENT", x.taken(0, 2), 2);
    Due.same("a night before the present day", x.taken(0, 0), 2);
    x.departEarly(1);
    Due.same("one is DONE", x.taken(0, 2), 1);
    Due.same("the departure day", x.taken(0, 3), 0);
    x.endDays(2);
    Due.same("all are DONE", x.taken(0, 2), 0);
  }

  @Says(at = "Promise 12", words = "Throws `IndexOutOfBoundsException` if there is no such class")
  static void takenOfNoClass() {
    Edges.noSuchClass("taken", (x, c) -> x.taken(c, 0));
    Edges.noSuchClass("taken", (x, c) -> x.taken(c, Edges.MIN));
  }

  @Says(at = "Promise 13", words = "`night`: any number")
  static void availableOnAnyNight() {
    for (int day : new int[] {0, 990, 999}) {
      Campground x = Due.made("class 200 200 16; site 0 0; day " + day + ";");
      for (int night : NO_NIGHTS) {
        Due.same("available on " + night, x.available(0, night), 0);
      }
    }
  }

  @Says(at = "Promise 13", words = "Throws `IndexOutOfBoundsException` if there is no such class")
  static void availableOfNoClass() {
    Edges.noSuchClass("available", (x, c) -> x.available(c, 0));
    Edges.noSuchClass("available", (x, c) -> x.available(c, Edges.MAX));
  }

  @Says(at = "Promise 14", words = "`arrival`: any number")
  static void obstacleOnAnyDay() {
    Campground x = Due.made("class 200 200 16; site 0 0; day 5;");
    for (int day : new int[] {Edges.MIN, Edges.MIN + 28, -28, -1, 0, 4, 206, 998, 999, 1000, Edges.MAX - 28,
        Edges.MAX}) {
      Due.same("obstacle on " + day, x.obstacle(0, day, 1), 1);
      Due.same("obstacle on " + day + ", 28 nights", x.obstacle(0, day, 28), 1);
    }
    Due.same("the first day", x.obstacle(0, 5, 1), 0);
    Due.same("the last day", x.obstacle(0, 205, 1), 0);
  }

  @Says(at = "Promise 14", words = "`nights`: 1 to 28")
  static void obstacleNights() {
    Campground x = Due.made("class 50 50 9; site 0;");
    Due.same("1 night", x.obstacle(0, 0, 1), 0);
    Due.same("28 nights", x.obstacle(0, 0, 28), 0);
    Due.thrown("0 nights", x, Due.ARGUMENT, () -> x.obstacle(0, 0, 0));
    Due.thrown("29 nights", x, Due.ARGUMENT, () -> x.obstacle(0, 0, 29));
  }

  @Says(at = "Promise 14", words = "Returns the obstacle, 0 to 3.")
  static void obstacleNumbers() {
    Campground x = Due.made("class 20 20 9; site 0; season 0 10 10 2 20;");
    x.book(0, 5, 1);
    expect(x, new int[][] {{0, 1, 0}, {21, 1, 1}, {5, 1, 2}, {10, 1, 3}});
  }

  @Says(at = "Promise 14", words = "Throws `IndexOutOfBoundsException` if there is no such class")
  static void obstacleOfNoClass() {
    Edges.noSuchClass("obstacle", (x, c) -> x.obstacle(c, 0, 1));
    Campground x = Due.made("class 9 9 9;");
    Due.thrown("both wrong", x, Due.INDEX, () -> x.obstacle(1, 0, 0));
  }

  @Says(at = "Promise 14", words = "Throws `IllegalArgumentException` if nights is out of range")
  static void obstacleOfWrongNights() {
    for (int day : new int[] {0, -1, Edges.MIN, Edges.MAX}) {
      Edges.range("nights", "class 9 9 9; site 0;", 1, 28, (x, nights) -> x.obstacle(0, day, nights));
    }
  }

  @Says(at = "Promise 15", words = "`arrival`: any number")
  static void longestStayOnAnyDay() {
    Campground x = Due.made("class 200 200 16; site 0 0; day 5;");
    for (int day : new int[] {Edges.MIN, -1, 0, 4, 206, 998, 999, 1000, Edges.MAX - 27, Edges.MAX}) {
      Due.same("longestStay on " + day, x.longestStay(0, day), 0);
    }
    Due.same("the first day", x.longestStay(0, 5), 28);
    Due.same("the last day", x.longestStay(0, 205), 1);
  }

  @Says(at = "Promise 15", words = "Returns the greatest number of nights (1 to 28) without an obstacle; 0 if there is "
      + "none.")
  static void longestStay() {
    Campground x = Due.made("class 60 60 9; site 0; season 0 40 49 5 20;");
    Due.same("28 at most", x.longestStay(0, 0), 28);
    Due.same("just 28 to the window", x.longestStay(0, 33), 28);
    Due.same("27 to the window", x.longestStay(0, 34), 27);
    Due.same("1 to the window", x.longestStay(0, 60), 1);
    Due.same("none after the window", x.longestStay(0, 61), 0);
    x.book(0, 28, 1);
    Due.same("just 28 to a booking", x.longestStay(0, 0), 28);
    Due.same("27 to a booking", x.longestStay(0, 1), 27);
    Due.same("1 to a booking", x.longestStay(0, 27), 1);
    Due.same("sold out", x.longestStay(0, 28), 0);
    x.book(0, 45, 5);
    Due.same("the minimum just fits", x.longestStay(0, 40), 5);
    Due.same("less than the minimum", x.longestStay(0, 41), 0);
    x.book(0, 35, 6);
    Due.same("a gap is filled", x.longestStay(0, 41), 4);
    Campground late = Due.made("class 60 60 9; site 0; day 990;");
    Due.same("to night 998", late.longestStay(0, 990), 9);
    Due.same("night 998 alone", late.longestStay(0, 998), 1);
    Due.same("no site", Due.made("class 60 60 9;").longestStay(0, 0), 0);
  }

  @Says(at = "Promise 15", words = "Throws `IndexOutOfBoundsException` if there is no such class")
  static void longestStayOfNoClass() {
    Edges.noSuchClass("longestStay", (x, c) -> x.longestStay(c, 0));
    Edges.noSuchClass("longestStay", (x, c) -> x.longestStay(c, Edges.MAX));
  }

  @Says(at = "Promise 16", words = "`nights`: 1 to 28")
  static void cheapestNights() {
    Campground x = Due.made("class 50 50 9; site 0; season 0 30 30 1 0;");
    Due.same("1 night", x.cheapestArrival(0, 1, 0, 999), 30);
    Due.same("28 nights", x.cheapestArrival(0, 28, 0, 999), 3);
    Due.thrown("0 nights", x, Due.ARGUMENT, () -> x.cheapestArrival(0, 0, 0, 999));
    Due.thrown("29 nights", x, Due.ARGUMENT, () -> x.cheapestArrival(0, 29, 0, 999));
  }

  @Says(at = "Promise 16", words = "`first`: the first day that is looked at, 0 to 999")
  static void cheapestFirst() {
    Campground x = Due.made("class 50 50 9; site 0; season 0 7 7 1 0;");
    Due.same("from day 0", x.cheapestArrival(0, 1, 0, 999), 7);
    Due.same("from the cheapest day", x.cheapestArrival(0, 1, 7, 999), 7);
    Due.same("from the next day", x.cheapestArrival(0, 1, 8, 999), 8);
    Due.same("from day 999", x.cheapestArrival(0, 1, 999, 999), -1);
    Edges.range("first", "class 50 50 9; site 0;", 0, 999, (y, first) -> y.cheapestArrival(0, 1, first, 999));
    Campground late = Due.made("class 50 50 9; site 0; day 998;");
    Due.same("the last arrival day", late.cheapestArrival(0, 1, 998, 998), 998);
  }

  @Says(at = "Promise 16", words = "`last`: the last day that is looked at, first to 999")
  static void cheapestLast() {
    Campground x = Due.made("class 50 50 9; site 0; season 0 7 7 1 0;");
    Due.same("to the cheapest day", x.cheapestArrival(0, 1, 0, 7), 7);
    Due.same("to the day before it", x.cheapestArrival(0, 1, 0, 6), 0);
    Due.same("one day alone", x.cheapestArrival(0, 1, 5, 5), 5);
    Due.same("day 0 alone", x.cheapestArrival(0, 1, 0, 0), 0);
    Due.same("nights after the last day", x.cheapestArrival(0, 2, 0, 6), 6);
    for (int first : new int[] {0, 1, 500, 999}) {
      Edges.range("last", "class 50 50 9; site 0;", first, 999, (y, last) -> y.cheapestArrival(0, 1, first, last));
    }
  }

  @Says(at = "Promise 16", words = "Returns the arrival day without an obstacle for which the sum of the prices of the "
      + "nights is least, of several the earliest one; NONE if there is none.")
  static void cheapestArrival() {
    Campground x = Due.made("class 30 30 9; site 0; season 0 10 11 1 15; season 0 20 20 1 10; day 3;");
    Due.same("the least sum", x.cheapestArrival(0, 1, 0, 999), 20);
    Due.same("of several the earliest one", x.cheapestArrival(0, 2, 0, 999), 10);
    Due.same("of several after it", x.cheapestArrival(0, 2, 12, 999), 19);
    Due.same("all are equal, the present day is the first", x.cheapestArrival(0, 1, 0, 9), 3);
    x.addSeason(0, 20, 20, 2, 10);
    Due.same("the cheapest is too short", x.cheapestArrival(0, 1, 0, 999), 10);
    x.book(0, 10, 1);
    Due.same("the next one is sold out", x.cheapestArrival(0, 1, 0, 999), 11);
    Due.same("days before the present day", x.cheapestArrival(0, 1, 0, 2), -1);
    Due.same("the window's last day", x.cheapestArrival(0, 1, 33, 999), 33);
    Due.same("days after the window", x.cheapestArrival(0, 1, 34, 999), -1);
    Due.same("two nights at the window's last day", x.cheapestArrival(0, 2, 33, 999), -1);
    Due.same("no site", Due.made("class 30 30 9;").cheapestArrival(0, 1, 0, 999), -1);
    Due.same("all nights for nothing", Due.made("class 30 30 9; site 0; season 0 0 999 1 0;")
        .cheapestArrival(0, 1, 0, 999), 0);
  }

  @Says(at = "Promise 16", words = "Throws `IndexOutOfBoundsException` if there is no such class")
  static void cheapestOfNoClass() {
    Edges.noSuchClass("cheapestArrival", (x, c) -> x.cheapestArrival(c, 1, 0, 999));
    Campground x = Due.made("class 9 9 9;");
    Due.thrown("all wrong", x, Due.INDEX, () -> x.cheapestArrival(1, 0, -1, 1000));
  }

  @Says(at = "Promise 16", words = "Throws `IllegalArgumentException` if another argument is out of range")
  static void cheapestOfWrongArguments() {
    Campground x = Due.made("class 9 9 9; site 0;");
    int[][] wrong = {{0, 0, 9}, {29, 0, 9}, {1, -1, 9}, {1, 1000, 1000}, {1, 5, 4}, {1, 0, 1000}, {1, 0, -1},
        {Edges.MIN, 0, 9}, {Edges.MAX, 0, 9}, {1, Edges.MIN, 9}, {1, 0, Edges.MAX}, {1, Edges.MAX, Edges.MAX}};
    for (int[] w : wrong) {
      Due.thrown("wrong argument", x, Due.ARGUMENT, () -> x.cheapestArrival(0, w[0], w[1], w[2]));
    }
  }

  @Says(at = "Promise 17", words = "`from`: 0 to 999")
  static void gapFrom() {
    Campground x = Due.made("class 9 9 9; site 0;");
    Due.same("from 0", x.nextGap(0, 0), 0);
    Due.same("from 1", x.nextGap(0, 1), -1);
    Due.same("from 999", x.nextGap(0, 999), -1);
    Campground late = Due.made("class 9 9 9; site 0; day 998;");
    Due.same("from 998", late.nextGap(0, 998), 998);
    Due.same("from 999", late.nextGap(0, 999), -1);
  }

  @Says(at = "Promise 17", words = "Returns the first night from this day on that is available although the night "
      + "before it is not; NONE if there is none.")
  static void nextGap() {
    Campground x = Due.made("class 20 20 9; site 0; day 3;");
    Due.same("the present night", x.nextGap(0, 0), 3);
    Due.same("the present night from itself", x.nextGap(0, 3), 3);
    Due.same("no other one", x.nextGap(0, 4), -1);
    x.book(0, 3, 1);
    x.book(0, 6, 1);
    Due.same("after the first booking", x.nextGap(0, 3), 4);
    Due.same("from itself", x.nextGap(0, 4), 4);
    Due.same("after the second booking", x.nextGap(0, 5), 7);
    Due.same("from itself", x.nextGap(0, 7), 7);
    Due.same("no third one", x.nextGap(0, 8), -1);
    x.book(0, 23, 1);
    Due.same("not behind the window", x.nextGap(0, 8), -1);
    Campground quota = Due.made("class 20 5 0; site 0;");
    Due.same("none behind the short window", quota.nextGap(0, 1), -1);
    Due.same("no site", Due.made("class 20 20 9;").nextGap(0, 0), -1);
    Due.same("day 999", Due.made("class 20 20 9; site 0; day 999;").nextGap(0, 0), -1);
  }

  @Says(at = "Promise 17", words = "Throws `IndexOutOfBoundsException` if there is no such class")
  static void gapOfNoClass() {
    Edges.noSuchClass("nextGap", (x, c) -> x.nextGap(c, 0));
    Campground x = Due.made("class 9 9 9;");
    Due.thrown("both wrong", x, Due.INDEX, () -> x.nextGap(1, 1000));
  }

  @Says(at = "Promise 17", words = "Throws `IllegalArgumentException` if from is out of range")
  static void gapFromWrongDay() {
    Edges.range("from", "class 9 9 9; site 0;", 0, 999, (x, from) -> x.nextGap(0, from));
    Edges.range("from", "class 9 9 9; site 0; day 999;", 0, 999, (x, from) -> x.nextGap(0, from));
  }
}
