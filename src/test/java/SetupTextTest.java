/** Promises 50 to 54: setup texts. */
public final class SetupTextTest {
  public static void main(String[] args) {
    appendText();
    truncateText();
    loadReplaces();
    errorLeaves();
    goodTexts();
    wrongTokens();
    wrongNumbers();
    tooMany();
    latestError();
    bytesBehindTheText();
    Due.end();
  }

  private static void appendText() {
    Campground x = new Campground();
    Due.same("appendText", x.appendText('d' << 24 | 'a' << 16 | 'y' << 8 | ' '), 4);
    Due.same("appendText", x.appendText('4' << 24 | '2' << 16 | ';' << 8 | '\n'), 8);
    Due.same("load", x.load(), 1);
    Due.same("today", x.today(), 42);
    for (int length = 4; length <= 500; length += 4) {
      Due.same("appendText", x.appendText(0x20202020), length);
    }
    Due.thrown("a 501st byte", x, Due.STATE, () -> x.appendText(0x20202020));
    Due.same("cut to 497", x.truncateText(497), 497);
    Due.thrown("501 bytes", x, Due.STATE, () -> x.appendText(0x20202020));
    Due.same("cut to 496", x.truncateText(496), 496);
    Due.same("500 bytes", x.appendText(0x20202020), 500);
    Due.same("a text of spaces", x.load(), 0);
    Due.same("the buffer is empty then", x.appendText(-1), 4);
    Due.same("byte 255 belongs to no token", x.load(), -1);
    error(x, "byte 255", 1, 0);
  }

  private static void truncateText() {
    Campground x = new Campground();
    Due.write(x, "day 777;");
    for (int length : new int[] {-1, 9, Integer.MIN_VALUE, Integer.MAX_VALUE}) {
      Due.thrown("truncateText", x, Due.ARGUMENT, () -> x.truncateText(length));
    }
    Due.same("to the present length", x.truncateText(8), 8);
    Due.same("to 5", x.truncateText(5), 5);
    Due.thrown("back to 8", x, Due.ARGUMENT, () -> x.truncateText(8));
    Due.same("behind it", x.appendText(';' << 24 | 0x202020), 9);
    Due.same("load", x.load(), 1);
    Due.same("today", x.today(), 7);
    Due.thrown("the buffer is empty", x, Due.ARGUMENT, () -> x.truncateText(1));
    Due.same("to 0", x.truncateText(0), 0);
  }

  private static void loadReplaces() {
    Campground x = Due.made("class 50 50 1; class 30 20 2; site 0 1; season 0 1 5 2 30; day 3;");
    x.book(0, 10, 2);
    x.request(0, 12, 1);
    x.close(1, 9);
    x.save(0);
    String before = Due.seen(x);
    Due.write(x, "class 5 2 1; site 0 0;");
    Due.same("load", x.load(), 2);
    Due.same("classes", x.classCount(), 1);
    Due.same("sites", x.siteCount(), 2);
    Due.same("bookings", x.bookingCount(), 0);
    Due.thrown("requests", x, Due.INDEX, () -> x.requestState(0));
    Due.same("closings", x.capacity(0, 0), 2);
    Due.same("window", x.released(0, 5), 1);
    Due.same("short window", x.released(0, 2), 2);
    Due.same("seasons", x.price(0, 3), 20);
    Due.same("minimum", x.minimum(0, 3), 1);
    Due.same("today", x.today(), 0);
    Due.same("revenue", x.revenue(), 0);
    x.restore(0);
    Due.same("saved states stay", before.equals(Due.seen(x)) ? 1 : 0, 1);
    Due.same("an empty text", x.load(), 0);
    Due.same("no class then", x.classCount(), 0);
    Due.same("day 0 then", x.today(), 0);
  }

  private static void errorLeaves() {
    Campground x = Due.made("class 50 50 1; site 0; season 0 1 5 2 30; day 3;");
    x.book(0, 10, 2);
    x.request(0, 12, 1);
    int revenue = x.revenue();
    Due.write(x, "class 5 2 1; class 5 2 1; site 0 0; day 9; season 1 2 3 4 5; day 1000;");
    Due.same("load", x.load(), -1);
    error(x, "day 1000", 2, 65);
    Due.same("classes", x.classCount(), 1);
    Due.same("sites", x.siteCount(), 1);
    Due.same("today", x.today(), 3);
    Due.same("price", x.price(0, 3), 30);
    Due.same("revenue", x.revenue(), revenue);
    Due.same("request", x.requestState(0), 0);
    Due.same("the buffer is empty", x.appendText(0x20202020), 4);
    Due.same("and can be used", x.load(), 0);
  }

  private static void goodTexts() {
    Campground x = Due.made("\n class\n 0000000000000000000000200 00200\n16;site 0 0;class9 8 7;site 1 0 1;"
        + "season1 5 999 14 9999;day 999;day 0007;season 0 3 3 1 0;");
    Due.same("classes", x.classCount(), 2);
    Due.same("sites", x.siteCount(), 5);
    int[] classes = {0, 0, 1, 0, 1};
    for (int s = 0; s < 5; s++) {
      Due.same("classOf(" + s + ")", x.classOf(s), classes[s]);
    }
    Due.same("the last day counts", x.today(), 7);
    Due.same("window", x.released(0, 207), 3);
    Due.same("behind the window", x.released(0, 208), 0);
    Due.same("short window of class 1", x.released(1, 15), 2);
    Due.same("minimum", x.minimum(1, 5), 14);
    Due.same("price", x.price(1, 999), 9999);
    Due.same("price before", x.price(1, 4), 20);
    Due.same("price 0", x.price(0, 3), 0);
    good("", 0);
    good(" \n\n ", 0);
    good("day 0;", 1);
    good("day0;day999;", 2);
    good("class 1 0 0;", 1);
    good("class 200 200 16;", 1);
    good("class 1 1 1;class 1 1 1;class 1 1 1;class 1 1 1;", 4);
    good("class 9 9 9;site 0 0 0 0 0 0 0 0 0 0 0 0 0 0 0 0;", 2);
    good("class 9 9 9;season 0 0 0 1 0;season 0 999 999 1 0;", 3);
    good("class 9 9 9;season 0 7 7 14 9999;", 2);
    StringBuilder seasons = new StringBuilder("class 1 1 1;");
    for (int i = 0; i < 12; i++) {
      seasons.append("season 0 1 2 3 4;");
    }
    good(seasons.toString(), 13);
  }

  private static void wrongTokens() {
    wrong(";", 1, 0);
    wrong("5", 1, 0);
    wrong("A", 1, 0);
    wrong("  days 5;", 1, 2);
    wrong("da 5;", 1, 0);
    wrong("xay 5;", 1, 0);
    wrong("dayz 5;", 1, 0);
    wrong("aday 5;", 1, 0);
    wrong("Day 5;", 1, 0);
    wrong("dayx5;", 1, 0);
    wrong("classs 1 1 1;", 1, 0);
    wrong("clasz 1 1 1;", 1, 0);
    wrong("site;", 1, 4);
    wrong("class 1 1 1;site;", 1, 16);
    wrong("class 1 1 1;site 0 x;", 1, 19);
    wrong("class 1 1 1;site 0 class;", 1, 19);
    wrong("class 1 1 1 1;", 1, 12);
    wrong("class 1 1;", 1, 9);
    wrong("class 1;", 1, 7);
    wrong("class;", 1, 5);
    wrong("class -1 1 1;", 1, 6);
    wrong("class 1\t1 1;", 1, 7);
    wrong("class 1,1 1;", 1, 7);
    wrong("class class 1 1;", 1, 6);
    wrong("day 5 6;", 1, 6);
    wrong("day;", 1, 3);
    wrong("day 5;;", 1, 6);
    wrong("day 5; 7;", 1, 7);
    wrong("day 5;day", 1, 9);
    wrong("day 5", 1, 5);
    wrong("day 5  \n", 1, 8);
    wrong("day", 1, 3);
    wrong("day ", 1, 4);
    wrong("class 1 1 1;site", 1, 16);
    wrong("class 1 1 1;site 0 ", 1, 19);
    wrong("class 1 1 1;season 0 1 2 3;", 1, 26);
    wrong("class 1 1 1;season 0 1 2 3 4 5;", 1, 29);
    wrong("class 1 1 1;season 0 1 2 3 4", 1, 28);
    wrong("class 1 1 1;season x", 1, 19);
    wrong("day 5;\u0000", 1, 6);
    wrong("day 5;\u00e9", 1, 6);
    wrong("day \u00b5;", 1, 4);
    wrong("day 5`;", 1, 5);
    wrong("day 5{;", 1, 5);
    wrong("day 5/;", 1, 5);
    wrong("day 5:;", 1, 5);
    wrong("day 5\r;", 1, 5);
  }

  private static void wrongNumbers() {
    wrong("class 0 0 0;", 2, 6);
    wrong("class 201 0 0;", 2, 6);
    wrong("class 5 6 0;", 2, 8);
    wrong("class 5 5 17;", 2, 10);
    wrong("site 0;", 2, 5);
    wrong("season 0 1 2 3 4;", 2, 7);
    wrong("class 1 1 1;site 0 1;", 2, 19);
    wrong("class 1 1 1;season 1 1 2 3 4;", 2, 19);
    wrong("class 1 1 1;season 0 1000 1000 3 4;", 2, 21);
    wrong("class 1 1 1;season 0 5 4 3 4;", 2, 23);
    wrong("class 1 1 1;season 0 5 1000 3 4;", 2, 23);
    wrong("class 1 1 1;season 0 5 5 0 4;", 2, 25);
    wrong("class 1 1 1;season 0 5 5 15 4;", 2, 25);
    wrong("class 1 1 1;season 0 5 5 1 10000;", 2, 27);
    wrong("day 1000;", 2, 4);
    wrong("day 1000", 2, 4);
    wrong("day 4294967296;", 2, 4);
    wrong("day 18446744073709551616;", 2, 4);
    wrong("day 99999999999999999999999999999999999999999999999999;", 2, 4);
    wrong("class 4294967297 0 0;", 2, 6);
    wrong("day 1000 x", 2, 4);
  }

  private static void tooMany() {
    String four = "class 1 1 1;class 1 1 1;class 1 1 1;class 1 1 1;";
    wrong(four + "class 1 1 1;", 3, 48);
    wrong(four + " class", 3, 49);
    wrong(four + "classy", 1, 48);
    String sixteen = "class 1 1 1;site 0 0 0 0 0 0 0 0;site 0 0 0 0 0 0 0 0";
    wrong("class 1 1 1;site 0 0 0 0 0 0 0 0 0 0 0 0 0 0 0 0 0;", 3, 49);
    wrong("class 1 1 1;site 0 0 0 0 0 0 0 0 0 0 0 0 0 0 0 0 0 0", 3, 49);
    wrong(sixteen + " 0;", 3, sixteen.length() + 1);
    wrong(sixteen + " 0 x", 3, sixteen.length() + 1);
    wrong(sixteen + ";site 0", 3, sixteen.length() + 6);
    wrong(sixteen + ";site 1", 2, sixteen.length() + 6);
    wrong(sixteen + " 1;", 2, sixteen.length() + 1);
    wrong(sixteen + ";site x", 1, sixteen.length() + 6);
    wrong(sixteen + ";site", 1, sixteen.length() + 5);
    StringBuilder twelve = new StringBuilder("class 1 1 1;");
    for (int i = 0; i < 12; i++) {
      twelve.append("season 0 1 2 3 4;");
    }
    wrong(twelve + "season 0 1 2 3 4;", 3, twelve.length());
    wrong(twelve + "season", 3, twelve.length());
    wrong(twelve + "seasons", 1, twelve.length());
    wrong(twelve + "day 1000;", 2, twelve.length() + 4);
  }

  private static void latestError() {
    Campground x = new Campground();
    Due.write(x, "day 5;x");
    Due.same("load", x.load(), -1);
    error(x, "first", 1, 6);
    x.save(0);
    Due.write(x, "day 1000;");
    Due.same("load", x.load(), -1);
    error(x, "second", 2, 4);
    x.restore(0);
    error(x, "restore leaves it", 2, 4);
    x.addClass(1, 1, 1);
    error(x, "other calls leave it", 2, 4);
    Due.write(x, "day 5;");
    error(x, "so does a new text", 2, 4);
    Due.same("load", x.load(), 1);
    error(x, "a good text", 0, -1);
  }

  private static void bytesBehindTheText() {
    Campground x = new Campground();
    Due.write(x, "day 9999");
    x.truncateText(7);
    Due.same("the number is cut", x.load(), -1);
    error(x, "day 999", 1, 7);
    Due.write(x, "days");
    x.truncateText(3);
    Due.same("the word is cut", x.load(), -1);
    error(x, "day", 1, 3);
    Due.write(x, "day 5; day 6;");
    x.truncateText(6);
    Due.same("the rest is cut", x.load(), 1);
    Due.same("day 5", x.today(), 5);
    for (String last : new String[] {"a", "5", ";", "?"}) {
      Due.write(x, " ".repeat(499) + last);
      Due.same("a wrong last byte", x.load(), -1);
      error(x, "500 bytes", 1, 499);
    }
    Due.write(x, " ".repeat(494) + "day 8;");
    Due.same("500 bytes", x.load(), 1);
    Due.same("day 8", x.today(), 8);
    Due.write(x, "0".repeat(500));
    Due.same("500 digits", x.load(), -1);
    error(x, "500 digits", 1, 0);
    Due.write(x, "day " + "0".repeat(494) + "9;");
    Due.same("many zeros", x.load(), 1);
    Due.same("day 9", x.today(), 9);
    Due.write(x, "day " + "9".repeat(496));
    Due.same("many nines", x.load(), -1);
    error(x, "many nines", 2, 4);
  }

  private static void good(String text, int statements) {
    Campground x = new Campground();
    Due.write(x, text);
    Due.same("load of '" + text + "'", x.load(), statements);
    error(x, text, 0, -1);
  }

  private static void wrong(String text, int code, int position) {
    Campground x = new Campground();
    Due.write(x, text);
    Due.same("load of '" + text + "'", x.load(), -1);
    error(x, text, code, position);
    Due.same("classes after '" + text + "'", x.classCount(), 0);
    Due.same("today after '" + text + "'", x.today(), 0);
    Due.same("the buffer after '" + text + "'", x.appendText(0), 4);
  }

  private static void error(Campground x, String what, int code, int position) {
    Due.same("errorCode: " + what, x.errorCode(), code);
    Due.same("errorPosition: " + what, x.errorPosition(), position);
  }
}
