/** Classes, sites, days and seasons, and promises 1 to 9, sentence by sentence. */
final class ClassesBoundaries {
  private static final String FOUR = "class 1 0 0; class 1 0 0; class 1 0 0; class 1 0 0;";
  private static final String SIXTEEN = "class 9 9 9; site 0 0 0 0 0 0 0 0 0 0 0 0 0 0 0 0;";

  private ClassesBoundaries() {
  }

  @Says(at = "CLASSES, SITES AND DAYS", words = "Days are numbered from 0 to 999; night d lies between day d and "
      + "day d + 1.")
  static void daysAndNights() {
    Campground first = Due.made("class 200 200 1; site 0;");
    Due.same("price on day 0", first.price(0, 0), 20);
    Due.thrown("price on day -1", first, Due.ARGUMENT, () -> first.price(0, -1));
    first.book(0, 0, 1);
    Due.same("night 0 begins on day 0", first.arrival(0), 0);
    Due.same("night 0 ends on day 1", first.departure(0), 1);
    Campground last = Due.made("class 200 200 1; site 0; day 998;");
    Due.same("price on day 999", last.price(0, 999), 20);
    Due.thrown("price on day 1000", last, Due.ARGUMENT, () -> last.price(0, 1000));
    last.book(0, 998, 1);
    Due.same("night 998 ends on day 999", last.departure(0), 999);
    Due.same("day 999 comes", last.endDays(1), 999);
    Due.thrown("day 1000 does not", last, Due.STATE, () -> last.endDays(1));
  }

  @Says(at = "CLASSES, SITES AND DAYS", words = "There is a present day, 0 at first.")
  static void presentDay() {
    Campground x = new Campground();
    Due.same("at first", x.today(), 0);
    x.endDays(1);
    Due.same("after a day", x.today(), 1);
  }

  @Says(at = "CLASSES, SITES AND DAYS", words = "There are at most 4 classes, numbered from 0, and at most 16 sites, "
      + "numbered from 0.")
  static void mostClassesAndSites() {
    Campground x = new Campground();
    for (int c = 0; c < 4; c++) {
      Due.same("class", x.addClass(9, 9, 9), c);
    }
    Due.thrown("a 5th class", x, Due.STATE, () -> x.addClass(9, 9, 9));
    for (int s = 0; s < 16; s++) {
      Due.same("site", x.addSite(s % 4), s);
    }
    Due.thrown("a 17th site", x, Due.STATE, () -> x.addSite(0));
    Due.same("the last site's class", x.classOf(15), 3);
  }

  @Says(at = "CLASSES, SITES AND DAYS", words = "A class has a window (1 to 200 days), a short window (0 to its "
      + "window), and a quota (0 to 16).")
  static void leastAndGreatestClass() {
    Campground x = Due.made("class 1 0 0; class 1 1 0; class 200 0 16; class 200 200 0; site 0 1 2 3;");
    int[][] want = {{0, 0, 1}, {0, 1, 0}, {1, 1, 1}, {1, 2, 0}, {2, 200, 1}, {2, 201, 0}, {3, 200, 1}, {3, 201, 0}};
    for (int[] w : want) {
      Due.same("released(" + w[0] + ", " + w[1] + ")", x.released(w[0], w[1]), w[2]);
    }
    Campground many = new Campground();
    many.addClass(9, 0, 16);
    for (int s = 0; s < 16; s++) {
      many.addSite(0);
    }
    Due.same("the quota 16 holds nothing back", many.released(0, 9), 16);
  }

  @Says(at = "SEASONS", words = "A season is a range of days, from its first to its last one, with a minimum number of "
      + "nights (1 to 14) and a price (0 to 9999) for one class.")
  static void seasonRange() {
    Campground x = Due.made("class 9 9 9; class 9 9 9; season 0 10 12 14 9999; season 0 20 20 1 0;");
    int[][] want = {{9, 1, 20}, {10, 14, 9999}, {11, 14, 9999}, {12, 14, 9999}, {13, 1, 20}, {19, 1, 20}, {20, 1, 0},
        {21, 1, 20}};
    for (int[] w : want) {
      Due.same("minimum on " + w[0], x.minimum(0, w[0]), w[1]);
      Due.same("price on " + w[0], x.price(0, w[0]), w[2]);
      Due.same("minimum of the other class on " + w[0], x.minimum(1, w[0]), 1);
      Due.same("price of the other class on " + w[0], x.price(1, w[0]), 20);
    }
  }

  @Says(at = "SEASONS", words = "For a class and a day, the latest season that was added for this class and contains "
      + "the day counts.")
  static void latestSeason() {
    Campground x = Due.made("class 9 9 9; class 9 9 9; season 0 10 14 2 30; season 0 12 16 3 40; season 1 10 16 4 50;"
        + "season 0 14 14 5 60;");
    int[][] want = {{9, 1, 20}, {10, 2, 30}, {11, 2, 30}, {12, 3, 40}, {13, 3, 40}, {14, 5, 60}, {15, 3, 40},
        {16, 3, 40}, {17, 1, 20}};
    for (int[] w : want) {
      Due.same("minimum on " + w[0], x.minimum(0, w[0]), w[1]);
      Due.same("price on " + w[0], x.price(0, w[0]), w[2]);
    }
    x.addSeason(0, 10, 14, 6, 70);
    Due.same("an equal range that is added later", x.price(0, 14), 70);
    Due.same("its minimum", x.minimum(0, 10), 6);
  }

  @Says(at = "SEASONS", words = "Without such a season the minimum is 1 and the price is 20.")
  static void withoutSeason() {
    Campground x = Due.made("class 9 9 9; class 9 9 9;");
    Due.same("minimum without any season", x.minimum(0, 0), 1);
    Due.same("price without any season", x.price(0, 999), 20);
    x.addSeason(0, 1, 998, 7, 77);
    x.addSeason(1, 0, 999, 8, 88);
    for (int day : new int[] {0, 999}) {
      Due.same("minimum beside the season", x.minimum(0, day), 1);
      Due.same("price beside the season", x.price(0, day), 20);
    }
  }

  @Says(at = "SEASONS", words = "There are at most 12 seasons, numbered from 0.")
  static void mostSeasons() {
    Campground x = Due.made("class 9 9 9; class 9 9 9;");
    for (int s = 0; s < 12; s++) {
      Due.same("season", x.addSeason(s % 2, s, s, 1, 100 + s), s);
    }
    Due.thrown("a 13th season", x, Due.STATE, () -> x.addSeason(0, 0, 999, 14, 1));
    Due.same("the first one counts", x.price(0, 0), 100);
    Due.same("the last one counts", x.price(1, 11), 111);
  }

  @Says(at = "Promise 1", words = "Creates a campground without classes on day 0, with an empty text buffer and no "
      + "saved states.")
  static void newObject() {
    Campground x = new Campground();
    Due.same("classes", x.classCount(), 0);
    Due.same("today", x.today(), 0);
    Due.thrown("a byte of text", x, Due.ARGUMENT, () -> x.truncateText(1));
    Due.same("the text's length", x.truncateText(0), 0);
    Due.thrown("a state in slot 0", x, Due.STATE, () -> x.restore(0));
    Due.thrown("a state in slot 1", x, Due.STATE, () -> x.restore(1));
    Due.same("the text is a setup without statements", x.load(), 0);
  }

  @Says(at = "Promise 2", words = "`window`: 1 to 200")
  static void window() {
    Edges.range("window", "", 1, 200, (x, window) -> x.addClass(window, 0, 0));
  }

  @Says(at = "Promise 2", words = "`shortWindow`: 0 to window")
  static void shortWindow() {
    for (int window : new int[] {1, 2, 199, 200}) {
      Edges.range("short window", "", 0, window, (x, shortWindow) -> x.addClass(window, shortWindow, 0));
    }
  }

  @Says(at = "Promise 2", words = "`quota`: 0 to 16")
  static void quota() {
    Edges.range("quota", "", 0, 16, (x, quota) -> x.addClass(5, 2, quota));
  }

  @Says(at = "Promise 2", words = "Throws `IllegalArgumentException` if an argument is out of range")
  static void wrongClass() {
    int[][] wrong = {{0, 0, 0}, {201, 0, 0}, {5, -1, 0}, {5, 6, 0}, {5, 0, -1}, {5, 0, 17}, {0, 1, 17},
        {Edges.MIN, Edges.MIN, Edges.MIN}, {Edges.MAX, Edges.MAX, Edges.MAX}};
    for (int[] w : wrong) {
      for (String setup : new String[] {"", FOUR}) {
        Campground x = Due.made(setup);
        Due.thrown("wrong argument", x, Due.ARGUMENT, () -> x.addClass(w[0], w[1], w[2]));
      }
    }
  }

  @Says(at = "Promise 2", words = "Throws `IllegalStateException` if there are 4 classes")
  static void fourClasses() {
    Campground x = Due.made("class 1 0 0; class 1 0 0; class 1 0 0;");
    Due.same("the 4th class", x.addClass(1, 0, 0), 3);
    Due.thrown("the 5th class", x, Due.STATE, () -> x.addClass(1, 0, 0));
    Due.thrown("the 5th class again", x, Due.STATE, () -> x.addClass(200, 200, 16));
    x.load();
    Due.same("a first class again", x.addClass(1, 0, 0), 0);
  }

  @Says(at = "Promise 3", words = "Throws `IndexOutOfBoundsException` if there is no such class")
  static void siteOfNoClass() {
    Edges.noSuchClass("addSite", (x, c) -> x.addSite(c));
    Campground full = Due.made(SIXTEEN);
    Due.thrown("also if there are 16 sites", full, Due.INDEX, () -> full.addSite(1));
  }

  @Says(at = "Promise 3", words = "Throws `IllegalStateException` if there are 16 sites")
  static void sixteenSites() {
    Campground x = Due.made("class 9 9 9; class 9 9 9; site 0 0 0 0 0 0 0 0 0 0 0 0 0 0 0;");
    Due.same("the 16th site", x.addSite(1), 15);
    Due.thrown("the 17th site", x, Due.STATE, () -> x.addSite(0));
    Due.thrown("the 17th site, of the other class", x, Due.STATE, () -> x.addSite(1));
  }

  @Says(at = "Promise 4", words = "`first`: the first day, 0 to 999")
  static void seasonFirst() {
    Edges.range("first", "class 9 9 9;", 0, 999, (x, first) -> x.addSeason(0, first, 999, 1, 1));
    Campground x = Due.made("class 9 9 9;");
    x.addSeason(0, 0, 0, 1, 5);
    x.addSeason(0, 999, 999, 1, 6);
    Due.same("day 0", x.price(0, 0), 5);
    Due.same("day 999", x.price(0, 999), 6);
  }

  @Says(at = "Promise 4", words = "`last`: the last day, first to 999")
  static void seasonLast() {
    for (int first : new int[] {0, 1, 998, 999}) {
      Edges.range("last", "class 9 9 9;", first, 999, (x, last) -> x.addSeason(0, first, last, 1, 1));
    }
  }

  @Says(at = "Promise 4", words = "`minimum`: 1 to 14")
  static void seasonMinimum() {
    Edges.range("minimum", "class 9 9 9;", 1, 14, (x, minimum) -> x.addSeason(0, 0, 9, minimum, 1));
  }

  @Says(at = "Promise 4", words = "`price`: 0 to 9999")
  static void seasonPrice() {
    Edges.range("price", "class 9 9 9;", 0, 9999, (x, price) -> x.addSeason(0, 0, 9, 1, price));
  }

  @Says(at = "Promise 4", words = "Throws `IndexOutOfBoundsException` if there is no such class")
  static void seasonOfNoClass() {
    Edges.noSuchClass("addSeason", (x, c) -> x.addSeason(c, 0, 0, 1, 1));
    Campground full = twelveSeasons();
    Due.thrown("also if there are 12 seasons", full, Due.INDEX, () -> full.addSeason(1, 0, 0, 1, 1));
    Due.thrown("also with wrong arguments", full, Due.INDEX, () -> full.addSeason(-1, -1, -1, 0, -1));
  }

  @Says(at = "Promise 4", words = "Throws `IllegalArgumentException` if another argument is out of range")
  static void wrongSeason() {
    int[][] wrong = {{-1, 5, 1, 1}, {1000, 1000, 1, 1}, {5, 4, 1, 1}, {5, 1000, 1, 1}, {5, 5, 0, 1}, {5, 5, 15, 1},
        {5, 5, 1, -1}, {5, 5, 1, 10000}, {Edges.MIN, Edges.MAX, 1, 1}, {5, Edges.MIN, 1, 1}};
    for (int[] w : wrong) {
      Campground x = Due.made("class 9 9 9;");
      Due.thrown("wrong argument", x, Due.ARGUMENT, () -> x.addSeason(0, w[0], w[1], w[2], w[3]));
      Campground full = twelveSeasons();
      Due.thrown("also if there are 12", full, Due.ARGUMENT, () -> full.addSeason(0, w[0], w[1], w[2], w[3]));
    }
  }

  @Says(at = "Promise 4", words = "Throws `IllegalStateException` if there are 12 seasons")
  static void tooManySeasons() {
    Campground x = Due.made("class 9 9 9; class 9 9 9;");
    for (int s = 0; s < 11; s++) {
      x.addSeason(0, s, s, 1, 1);
    }
    Due.same("the 12th season", x.addSeason(0, 0, 0, 1, 1), 11);
    Due.thrown("the 13th season", x, Due.STATE, () -> x.addSeason(0, 0, 0, 1, 1));
    Due.thrown("the 13th season, of the other class", x, Due.STATE, () -> x.addSeason(1, 500, 999, 14, 9999));
  }

  @Says(at = "Promise 5", words = "Returns the number of classes.")
  static void classCount() {
    Campground x = new Campground();
    for (int count = 0; count <= 4; count++) {
      Due.same("classCount", x.classCount(), count);
      if (count < 4) {
        x.addClass(1, 0, 0);
      }
    }
  }

  @Says(at = "Promise 6", words = "Returns the number of sites.")
  static void siteCount() {
    Campground x = Due.made("class 9 9 9;");
    for (int count = 0; count <= 16; count++) {
      Due.same("siteCount", x.siteCount(), count);
      if (count < 16) {
        x.addSite(0);
      }
    }
  }

  @Says(at = "Promise 7", words = "Throws `IndexOutOfBoundsException` if there is no such site")
  static void classOfNoSite() {
    Edges.noSuchSite("classOf", (x, s) -> x.classOf(s));
  }

  @Says(at = "Promise 8", words = "`day`: 0 to 999")
  static void minimumOnADay() {
    Campground x = Due.made("class 9 9 9; season 0 0 0 2 1; season 0 999 999 3 1;");
    Due.same("day 0", x.minimum(0, 0), 2);
    Due.same("day 1", x.minimum(0, 1), 1);
    Due.same("day 998", x.minimum(0, 998), 1);
    Due.same("day 999", x.minimum(0, 999), 3);
  }

  @Says(at = "Promise 8", words = "Throws `IndexOutOfBoundsException` if there is no such class")
  static void minimumOfNoClass() {
    Edges.noSuchClass("minimum", (x, c) -> x.minimum(c, 0));
    Edges.noSuchClass("minimum", (x, c) -> x.minimum(c, 999));
    Campground x = Due.made("class 9 9 9;");
    Due.thrown("both wrong", x, Due.INDEX, () -> x.minimum(1, 1000));
  }

  @Says(at = "Promise 8", words = "Throws `IllegalArgumentException` if day is out of range")
  static void minimumOnNoDay() {
    Edges.range("minimum on day", "class 9 9 9;", 0, 999, (x, day) -> x.minimum(0, day));
  }

  @Says(at = "Promise 9", words = "`day`: 0 to 999")
  static void priceOnADay() {
    Campground x = Due.made("class 9 9 9; season 0 0 0 1 2; season 0 999 999 1 3;");
    Due.same("day 0", x.price(0, 0), 2);
    Due.same("day 1", x.price(0, 1), 20);
    Due.same("day 998", x.price(0, 998), 20);
    Due.same("day 999", x.price(0, 999), 3);
  }

  @Says(at = "Promise 9", words = "Throws `IndexOutOfBoundsException` if there is no such class")
  static void priceOfNoClass() {
    Edges.noSuchClass("price", (x, c) -> x.price(c, 0));
    Edges.noSuchClass("price", (x, c) -> x.price(c, 999));
    Campground x = Due.made("class 9 9 9;");
    Due.thrown("both wrong", x, Due.INDEX, () -> x.price(1, 1000));
  }

  @Says(at = "Promise 9", words = "Throws `IllegalArgumentException` if day is out of range")
  static void priceOnNoDay() {
    Edges.range("price on day", "class 9 9 9;", 0, 999, (x, day) -> x.price(0, day));
  }

  private static Campground twelveSeasons() {
    Campground x = Due.made("class 9 9 9;");
    for (int s = 0; s < 12; s++) {
      x.addSeason(0, s, s, 1, 1);
    }
    return x;
  }
}
