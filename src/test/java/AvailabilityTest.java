/** Promises 10 to 17: availability. */
public final class AvailabilityTest {
  private static final int[] FAR_NIGHTS = {Integer.MIN_VALUE, -1000, -1, 999, 1000, Integer.MAX_VALUE};

  public static void main(String[] args) {
    capacity();
    released();
    taken();
    available();
    obstacle();
    fillingGaps();
    longestStay();
    cheapestArrival();
    nextGap();
    noSuchClass();
    Due.end();
  }

  private static void capacity() {
    Campground x = Due.made("class 10 3 1; class 10 3 1; site 0 0 0 1; day 5;");
    Due.same("capacity tonight", x.capacity(0, 5), 3);
    Due.same("capacity of class 1", x.capacity(1, 5), 1);
    Due.same("capacity last night", x.capacity(0, 4), 0);
    Due.same("capacity far away", x.capacity(0, 998), 3);
    for (int night : FAR_NIGHTS) {
      Due.same("capacity on " + night, x.capacity(0, night), 0);
    }
    x.close(1, 8);
    Due.same("capacity while one is closed", x.capacity(0, 7), 2);
    Due.same("capacity when it is open again", x.capacity(0, 8), 3);
    Due.same("capacity of the other class", x.capacity(1, 7), 1);
    x.close(2, 999);
    Due.same("capacity with two closed", x.capacity(0, 7), 1);
    Due.same("capacity on 998 with one closed", x.capacity(0, 998), 2);
    x.endDays(3);
    Due.same("capacity after the closing", x.capacity(0, 8), 2);
    Due.same("capacity of a night that is over", x.capacity(0, 7), 0);
  }

  private static void released() {
    Campground x = Due.made("class 10 3 2; class 5 0 16; class 4 4 0; site 0 0 0 1 2 2; day 100;");
    int[][] want = {{99, 0}, {100, 3}, {103, 3}, {104, 2}, {110, 2}, {111, 0}, {998, 0}};
    for (int[] w : want) {
      Due.same("released(0, " + w[0] + ")", x.released(0, w[0]), w[1]);
    }
    Due.same("capacity is less than the quota", x.released(1, 105), 1);
    Due.same("short window 0, tonight", x.released(1, 100), 1);
    Due.same("after the window", x.released(1, 106), 0);
    Due.same("short window is the window", x.released(2, 104), 2);
    Due.same("short window is the window, after it", x.released(2, 105), 0);
    for (int night : FAR_NIGHTS) {
      Due.same("released on " + night, x.released(0, night), 0);
    }
    x.close(0, 105);
    x.close(1, 106);
    Due.same("released with closings", x.released(0, 103), 1);
    Due.same("released with closings and quota", x.released(0, 104), 1);
    Due.same("released with the quota again", x.released(0, 105), 2);
    Campground late = Due.made("class 200 200 1; site 0; day 990;");
    Due.same("released on 998", late.released(0, 998), 1);
    Due.same("released on 999", late.released(0, 999), 0);
    Campground zero = Due.made("class 10 3 0; site 0;");
    Due.same("quota 0", zero.released(0, 4), 0);
    Due.same("quota 0 in the short window", zero.released(0, 3), 1);
  }

  private static void taken() {
    Campground x = Due.made("class 20 20 1; class 20 20 1; site 0 0 0 1;");
    x.book(0, 2, 3);
    x.book(0, 4, 1);
    x.book(0, 0, 5);
    x.book(1, 2, 1);
    int[] want = {1, 1, 2, 2, 3, 0, 0};
    for (int night = 0; night < 7; night++) {
      Due.same("taken(0, " + night + ")", x.taken(0, night), want[night]);
    }
    Due.same("taken(1, 2)", x.taken(1, 2), 1);
    for (int night : FAR_NIGHTS) {
      Due.same("taken on " + night, x.taken(0, night), 0);
    }
    x.cancel(1);
    Due.same("taken after cancelling", x.taken(0, 4), 2);
    x.checkIn(2, Campground.NONE);
    x.endDays(1);
    Due.same("STAYING guests have taken past nights too", x.taken(0, 0), 1);
    x.endDays(2);
    Due.same("ABSENT guests take nothing", x.taken(0, 4), 1);
    x.endDays(2);
    Due.same("DONE guests take nothing", x.taken(0, 4), 0);
  }

  private static void available() {
    Campground x = Due.made("class 10 3 1; site 0 0;");
    x.book(0, 3, 1);
    x.book(0, 2, 4);
    int[] want = {2, 2, 1, 0, 0, 0, 1, 1, 1, 1, 1, 0};
    for (int night = 0; night < want.length; night++) {
      Due.same("available(0, " + night + ")", x.available(0, night), want[night]);
    }
    for (int night : FAR_NIGHTS) {
      Due.same("available on " + night, x.available(0, night), 0);
    }
    x.endDays(1);
    Due.same("available when the short window has moved", x.available(0, 4), 1);
    Due.same("available before it", x.available(0, 5), 0);
    Due.same("available last night", x.available(0, 0), 0);
    Campground less = Due.made("class 10 5 0; site 0 0;");
    less.book(0, 0, 6);
    less.save(0);
    Due.same("nothing is released there", less.available(0, 6), 0);
    Campground closed = Due.made("class 10 10 0; site 0 0 0;");
    closed.book(0, 0, 2);
    closed.close(1, 1);
    Due.same("one is closed, one taken", closed.available(0, 0), 1);
    Due.same("one taken", closed.available(0, 1), 2);
  }

  private static void obstacle() {
    Campground x = Due.made("class 40 30 1; class 40 40 1; site 0 0 1; season 0 20 29 5 30; day 10;");
    int[][] window = {{9, 1}, {9, 28}, {0, 1}, {-1, 1}, {Integer.MIN_VALUE, 1}, {Integer.MAX_VALUE, 1},
        {Integer.MAX_VALUE, 28}, {51, 1}, {50, 2}, {24, 28}, {998, 1}, {999, 1}, {1000, 1}};
    for (int[] w : window) {
      Due.same("WINDOW " + w[0] + ", " + w[1], x.obstacle(0, w[0], w[1]), 1);
    }
    int[][] none = {{10, 1}, {10, 28}, {50, 1}, {49, 2}, {23, 28}, {20, 5}, {29, 5}, {30, 1}, {19, 1}, {19, 2}};
    for (int[] w : none) {
      Due.same("no obstacle " + w[0] + ", " + w[1], x.obstacle(0, w[0], w[1]), 0);
    }
    Due.same("TOO SHORT on the first day", x.obstacle(0, 20, 4), 3);
    Due.same("TOO SHORT on the last day", x.obstacle(0, 29, 4), 3);
    Due.same("the other class has no such season", x.obstacle(1, 20, 1), 0);
    x.book(1, 15, 3);
    Due.same("SOLD OUT first night", x.obstacle(1, 17, 4), 2);
    Due.same("SOLD OUT last night", x.obstacle(1, 13, 3), 2);
    Due.same("SOLD OUT in the middle", x.obstacle(1, 14, 10), 2);
    Due.same("ends before", x.obstacle(1, 13, 2), 0);
    Due.same("begins behind", x.obstacle(1, 18, 2), 0);
    Due.same("WINDOW comes before SOLD OUT", x.obstacle(1, 9, 10), 1);
    Due.same("no site, so SOLD OUT", Due.made("class 9 9 1;").obstacle(0, 0, 1), 2);
    Campground late = Due.made("class 200 200 1; site 0; day 990;");
    Due.same("night 998 can be had", late.obstacle(0, 990, 9), 0);
    Due.same("night 999 cannot", late.obstacle(0, 990, 10), 1);
    Due.same("night 998 alone", late.obstacle(0, 998, 1), 0);
    Campground end = Due.made("class 200 200 1; site 0; day 999;");
    Due.same("nothing on the last day", end.obstacle(0, 999, 1), 1);
    for (int nights : new int[] {0, -1, 29, Integer.MIN_VALUE, Integer.MAX_VALUE}) {
      Due.thrown("obstacle of wrong nights", x, Due.ARGUMENT, () -> x.obstacle(0, 10, nights));
      Due.thrown("obstacle, both wrong", x, Due.INDEX, () -> x.obstacle(2, 10, nights));
    }
  }

  private static void fillingGaps() {
    Campground x = Due.made("class 30 30 1; site 0; season 0 0 99 5 10; day 10;");
    Due.same("free on both sides", x.obstacle(0, 15, 4), 3);
    Due.same("today is a gap's begin, its end is free", x.obstacle(0, 10, 4), 3);
    x.book(0, 14, 5);
    Due.same("from today to the booking", x.obstacle(0, 10, 4), 0);
    Due.same("only its end is taken", x.obstacle(0, 11, 3), 3);
    Due.same("only its begin is taken", x.obstacle(0, 19, 2), 3);
    Due.same("SOLD OUT comes before TOO SHORT", x.obstacle(0, 11, 4), 2);
    x.book(0, 21, 20);
    Due.same("between two bookings", x.obstacle(0, 19, 2), 0);
    Due.same("a part of the gap", x.obstacle(0, 19, 1), 3);
    Due.same("the other part", x.obstacle(0, 20, 1), 3);
    x.endDays(4);
    Due.same("to the window's end", x.obstacle(0, 41, 4), 0);
    Due.same("not quite to it", x.obstacle(0, 41, 3), 3);
    Campground late = Due.made("class 200 200 1; site 0; season 0 0 999 5 10; day 990;");
    late.book(0, 990, 6);
    Due.same("to the last night", late.obstacle(0, 996, 3), 0);
    Due.same("not quite to the last night", late.obstacle(0, 996, 2), 3);
  }

  private static void longestStay() {
    Campground x = Due.made("class 40 40 1; site 0; season 0 5 7 4 10; day 3;");
    Due.same("28 at most", x.longestStay(0, 3), 28);
    Due.same("to the window's end", x.longestStay(0, 40), 4);
    Due.same("the window's last night", x.longestStay(0, 43), 1);
    Due.same("after the window", x.longestStay(0, 44), 0);
    x.book(0, 8, 4);
    Due.same("to the next booking", x.longestStay(0, 3), 5);
    Due.same("too short then", x.longestStay(0, 5), 0);
    Due.same("sold out", x.longestStay(0, 8), 0);
    Due.same("yesterday", x.longestStay(0, 2), 0);
    x.book(0, 3, 2);
    Due.same("fills the gap", x.longestStay(0, 5), 3);
    for (int day : FAR_NIGHTS) {
      Due.same("longestStay on " + day, x.longestStay(0, day), 0);
    }
  }

  private static void cheapestArrival() {
    Campground x = Due.made("class 30 30 1; site 0; season 0 6 8 2 15; season 0 12 14 1 15; season 0 20 20 1 0;");
    Due.same("one night, the cheapest of all", x.cheapestArrival(0, 1, 0, 999), 20);
    Due.same("of several the earliest", x.cheapestArrival(0, 2, 0, 18), 6);
    Due.same("too short in the first season", x.cheapestArrival(0, 1, 0, 18), 12);
    Due.same("the range's last day counts", x.cheapestArrival(0, 1, 10, 12), 12);
    Due.same("the range's first day counts", x.cheapestArrival(0, 1, 14, 19), 14);
    Due.same("nights may lie after the range", x.cheapestArrival(0, 2, 15, 19), 19);
    Due.same("all equal", x.cheapestArrival(0, 1, 21, 999), 21);
    Due.same("window", x.cheapestArrival(0, 1, 31, 999), -1);
    Due.same("window for two nights", x.cheapestArrival(0, 2, 30, 999), -1);
    x.book(0, 20, 1);
    Due.same("the cheapest is sold out", x.cheapestArrival(0, 1, 9, 999), 12);
    x.endDays(2);
    Due.same("past days are no arrivals", x.cheapestArrival(0, 1, 0, 3), 2);
    Due.same("only past days", x.cheapestArrival(0, 1, 0, 1), -1);
    Due.same("28 nights are too many for the rest", x.cheapestArrival(0, 28, 0, 999), -1);
    int[][] wrong = {{0, 0, 9}, {29, 0, 9}, {1, -1, 9}, {1, 1000, 1000}, {1, 5, 4}, {1, 0, 1000}};
    for (int[] w : wrong) {
      Due.thrown("cheapestArrival out of range", x, Due.ARGUMENT, () -> x.cheapestArrival(0, w[0], w[1], w[2]));
      Due.thrown("cheapestArrival, both wrong", x, Due.INDEX, () -> x.cheapestArrival(1, w[0], w[1], w[2]));
    }
    Due.same("cheapestArrival(0, 1, 999, 999)", x.cheapestArrival(0, 1, 999, 999), -1);
  }

  private static void nextGap() {
    Campground x = Due.made("class 20 20 1; site 0; day 3;");
    Due.same("the present day begins one", x.nextGap(0, 0), 3);
    Due.same("from the present day", x.nextGap(0, 3), 3);
    Due.same("none behind it", x.nextGap(0, 4), -1);
    x.book(0, 3, 2);
    x.book(0, 7, 3);
    Due.same("after the first booking", x.nextGap(0, 0), 5);
    Due.same("from the gap on", x.nextGap(0, 5), 5);
    Due.same("after the second booking", x.nextGap(0, 6), 10);
    Due.same("no further one", x.nextGap(0, 11), -1);
    Due.same("from 999", x.nextGap(0, 999), -1);
    Due.same("no site, no gap", Due.made("class 9 9 9;").nextGap(0, 0), -1);
    Due.same("on the last night", Due.made("class 9 9 9; site 0; day 998;").nextGap(0, 998), 998);
    Due.same("on the last day", Due.made("class 9 9 9; site 0; day 999;").nextGap(0, 0), -1);
    for (int from : new int[] {-1, 1000, Integer.MIN_VALUE, Integer.MAX_VALUE}) {
      Due.thrown("nextGap out of range", x, Due.ARGUMENT, () -> x.nextGap(0, from));
      Due.thrown("nextGap, both wrong", x, Due.INDEX, () -> x.nextGap(1, from));
    }
  }

  private static void noSuchClass() {
    Campground x = Due.made("class 9 9 9; site 0;");
    for (int c : new int[] {-1, 1, 4, Integer.MIN_VALUE, Integer.MAX_VALUE}) {
      Due.thrown("capacity", x, Due.INDEX, () -> x.capacity(c, 0));
      Due.thrown("released", x, Due.INDEX, () -> x.released(c, 0));
      Due.thrown("taken", x, Due.INDEX, () -> x.taken(c, 0));
      Due.thrown("available", x, Due.INDEX, () -> x.available(c, 0));
      Due.thrown("obstacle", x, Due.INDEX, () -> x.obstacle(c, 0, 1));
      Due.thrown("longestStay", x, Due.INDEX, () -> x.longestStay(c, 0));
      Due.thrown("cheapestArrival", x, Due.INDEX, () -> x.cheapestArrival(c, 1, 0, 0));
      Due.thrown("nextGap", x, Due.INDEX, () -> x.nextGap(c, 0));
    }
  }
}
