/** Promises 1 to 9: a new object, classes, sites, seasons. */
public final class ClassesTest {
  public static void main(String[] args) {
    newObject();
    addClass();
    addSite();
    addSeason();
    classOf();
    minimumAndPrice();
    Due.end();
  }

  private static void newObject() {
    Campground x = new Campground();
    Due.same("NONE", Campground.NONE, -1);
    Due.same("new: classCount", x.classCount(), 0);
    Due.same("new: siteCount", x.siteCount(), 0);
    Due.same("new: bookingCount", x.bookingCount(), 0);
    Due.same("new: today", x.today(), 0);
    Due.same("new: revenue", x.revenue(), 0);
    Due.same("new: errorCode", x.errorCode(), 0);
    Due.same("new: errorPosition", x.errorPosition(), -1);
    Due.same("new: truncateText(0)", x.truncateText(0), 0);
    Due.thrown("new: truncateText(1)", x, Due.ARGUMENT, () -> x.truncateText(1));
    Due.thrown("new: restore(0)", x, Due.STATE, () -> x.restore(0));
    Due.thrown("new: restore(1)", x, Due.STATE, () -> x.restore(1));
    Due.thrown("new: requestState(0)", x, Due.INDEX, () -> x.requestState(0));
    Due.thrown("new: addSeason", x, Due.INDEX, () -> x.addSeason(0, 0, 0, 1, 1));
  }

  private static void addClass() {
    Campground x = new Campground();
    int[][] wrong = {{0, 0, 0}, {-1, 0, 0}, {201, 0, 0}, {5, -1, 0}, {5, 6, 0}, {200, 201, 0}, {5, 0, -1},
        {5, 0, 17}, {Integer.MIN_VALUE, 0, 0}, {Integer.MAX_VALUE, 0, 0}, {0, 1, 0}};
    for (int[] w : wrong) {
      Due.thrown("addClass out of range", x, Due.ARGUMENT, () -> x.addClass(w[0], w[1], w[2]));
    }
    Due.same("addClass(1, 0, 0)", x.addClass(1, 0, 0), 0);
    Due.same("addClass(200, 200, 16)", x.addClass(200, 200, 16), 1);
    Due.same("addClass(1, 1, 16)", x.addClass(1, 1, 16), 2);
    Due.same("three classes", x.classCount(), 3);
    Due.same("addClass(200, 0, 1)", x.addClass(200, 0, 1), 3);
    Due.same("four classes", x.classCount(), 4);
    Due.thrown("a 5th class", x, Due.STATE, () -> x.addClass(1, 0, 0));
    Due.thrown("a wrong 5th class", x, Due.ARGUMENT, () -> x.addClass(0, 0, 0));
  }

  private static void addSite() {
    Campground x = new Campground();
    Due.thrown("addSite without classes", x, Due.INDEX, () -> x.addSite(0));
    x.addClass(10, 5, 2);
    x.addClass(10, 5, 2);
    for (int i = 0; i < 16; i++) {
      Due.thrown("addSite(2)", x, Due.INDEX, () -> x.addSite(2));
      Due.thrown("addSite(-1)", x, Due.INDEX, () -> x.addSite(-1));
      Due.same("addSite", x.addSite(i % 2), i);
      Due.same("siteCount", x.siteCount(), i + 1);
    }
    Due.thrown("a 17th site", x, Due.STATE, () -> x.addSite(0));
    Due.thrown("a 17th site of no class", x, Due.INDEX, () -> x.addSite(2));
  }

  private static void addSeason() {
    Campground x = new Campground();
    x.addClass(10, 5, 2);
    int[][] wrong = {{-1, 5, 1, 1}, {1000, 1000, 1, 1}, {5, 4, 1, 1}, {5, 1000, 1, 1}, {5, 5, 0, 1},
        {5, 5, 15, 1}, {5, 5, 1, -1}, {5, 5, 1, 10000}};
    for (int[] w : wrong) {
      Due.thrown("addSeason out of range", x, Due.ARGUMENT, () -> x.addSeason(0, w[0], w[1], w[2], w[3]));
      Due.thrown("both wrong", x, Due.INDEX, () -> x.addSeason(1, w[0], w[1], w[2], w[3]));
    }
    Due.thrown("addSeason of no class", x, Due.INDEX, () -> x.addSeason(1, 0, 0, 1, 1));
    Due.thrown("addSeason of class -1", x, Due.INDEX, () -> x.addSeason(-1, 0, 0, 1, 1));
    Due.same("addSeason whole", x.addSeason(0, 0, 999, 14, 9999), 0);
    Due.same("addSeason one day", x.addSeason(0, 999, 999, 1, 0), 1);
    for (int i = 2; i < 12; i++) {
      Due.same("addSeason", x.addSeason(0, i, i, 1, i), i);
    }
    Due.thrown("a 13th season", x, Due.STATE, () -> x.addSeason(0, 0, 0, 1, 1));
    Due.thrown("a wrong 13th season", x, Due.ARGUMENT, () -> x.addSeason(0, 0, 0, 0, 1));
    Due.thrown("a 13th season of no class", x, Due.INDEX, () -> x.addSeason(1, 0, 0, 1, 1));
    Due.same("price on day 0", x.price(0, 0), 9999);
    Due.same("price on day 999", x.price(0, 999), 0);
    Due.same("price on day 11", x.price(0, 11), 11);
  }

  private static void classOf() {
    Campground x = Due.made("class 9 1 1; class 9 1 1; class 9 1 1; site 2 0 1 1;");
    int[] want = {2, 0, 1, 1};
    for (int s = 0; s < 4; s++) {
      Due.same("classOf(" + s + ")", x.classOf(s), want[s]);
    }
    Due.thrown("classOf(4)", x, Due.INDEX, () -> x.classOf(4));
    Due.thrown("classOf(-1)", x, Due.INDEX, () -> x.classOf(-1));
  }

  private static void minimumAndPrice() {
    Campground x = Due.made("class 9 1 1; class 9 1 1; season 0 10 20 3 50; season 1 12 14 9 90; season 0 15 15 2 70;"
        + "season 0 18 30 4 0;");
    int[][] want = {{9, 1, 20}, {10, 3, 50}, {12, 3, 50}, {14, 3, 50}, {15, 2, 70}, {16, 3, 50}, {17, 3, 50},
        {18, 4, 0}, {20, 4, 0}, {30, 4, 0}, {31, 1, 20}, {0, 1, 20}, {999, 1, 20}};
    for (int[] w : want) {
      Due.same("minimum(0, " + w[0] + ")", x.minimum(0, w[0]), w[1]);
      Due.same("price(0, " + w[0] + ")", x.price(0, w[0]), w[2]);
    }
    Due.same("minimum(1, 12)", x.minimum(1, 12), 9);
    Due.same("price(1, 14)", x.price(1, 14), 90);
    Due.same("minimum(1, 15)", x.minimum(1, 15), 1);
    Due.same("price(1, 11)", x.price(1, 11), 20);
    for (int day : new int[] {-1, 1000, Integer.MIN_VALUE, Integer.MAX_VALUE}) {
      Due.thrown("minimum of a wrong day", x, Due.ARGUMENT, () -> x.minimum(0, day));
      Due.thrown("price of a wrong day", x, Due.ARGUMENT, () -> x.price(0, day));
      Due.thrown("minimum, both wrong", x, Due.INDEX, () -> x.minimum(2, day));
      Due.thrown("price, both wrong", x, Due.INDEX, () -> x.price(-1, day));
    }
    Due.thrown("minimum(2, 0)", x, Due.INDEX, () -> x.minimum(2, 0));
    Due.thrown("minimum(-1, 0)", x, Due.INDEX, () -> x.minimum(-1, 0));
    Due.thrown("price(2, 0)", x, Due.INDEX, () -> x.price(2, 0));
    Due.thrown("price(-1, 0)", x, Due.INDEX, () -> x.price(-1, 0));
  }
}
