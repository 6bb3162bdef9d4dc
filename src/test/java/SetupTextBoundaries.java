/** Setup texts, and promises 50 to 54, sentence by sentence. */
final class SetupTextBoundaries {
  private static final int NONE = Campground.NONE;
  private static final String FOUR_CLASSES = "class 1 1 1;".repeat(4);
  private static final String TWELVE_SEASONS = "class 1 1 1;" + "season 0 1 2 3 4;".repeat(12);
  private static final String SIXTEEN_SITES = "class 1 1 1;site" + " 0".repeat(16);

  private SetupTextBoundaries() {
  }

  private static void good(String text, int statements) {
    Campground x = new Campground();
    Due.write(x, text);
    Due.same("load of '" + text + "'", x.load(), statements);
    Due.same("errorCode of '" + text + "'", x.errorCode(), 0);
    Due.same("errorPosition of '" + text + "'", x.errorPosition(), NONE);
  }

  private static void wrong(String text, int code, int position) {
    Campground x = new Campground();
    Due.write(x, text);
    Due.same("load of '" + text + "'", x.load(), NONE);
    Due.same("errorCode of '" + text + "'", x.errorCode(), code);
    Due.same("errorPosition of '" + text + "'", x.errorPosition(), position);
  }

  @Says(at = "SETUP TEXTS", words = "A setup is an ASCII text that is collected in a text buffer of at most 500 bytes.")
  static void fiveHundredBytes() {
    Campground x = new Campground();
    Due.write(x, " ".repeat(494) + "day 8;");
    Due.thrown("more than 500", x, Due.STATE, () -> x.appendText(0x20202020));
    Due.same("500 bytes", x.load(), 1);
    Due.same("the last of them counts", x.today(), 8);
    good("", 0);
    for (int notAscii : new int[] {128, 160, 192, 255}) {
      wrong("day 5;" + (char) notAscii, 1, 6);
      wrong("day 5" + (char) notAscii + ";", 1, 5);
      wrong((char) notAscii + "day 5;", 1, 0);
    }
  }

  @Says(at = "SETUP TEXTS", words = "Its tokens are words (maximal runs of the letters a to z), numbers (maximal runs of "
      + "the digits 0 to 9) and the symbol ;.")
  static void tokens() {
    good("day0;day9;", 2);
    good("class1 0 9;", 1);
    wrong("dayday 5;", 1, 0);
    wrong("daya 5;", 1, 0);
    wrong("dayz 5;", 1, 0);
    wrong("aday 5;", 1, 0);
    wrong("zday 5;", 1, 0);
    wrong("da y 5;", 1, 0);
    wrong("day 5a;", 1, 5);
    wrong("day 5 5;", 1, 6);
    wrong("class 111;", 1, 9);
    wrong("day 5;;", 1, 6);
    for (char beside : new char[] {'`', '{', '/', ':', '<', '@', 'A', 'Z', '[', '-', '+', '.', ','}) {
      wrong("day 5" + beside + ";", 1, 5);
      wrong("day " + beside + ";", 1, 4);
      wrong("day" + beside + " 5;", 1, 3);
      wrong(beside + "day 5;", 1, 0);
    }
  }

  @Says(at = "SETUP TEXTS", words = "Spaces (byte 32) and line feeds (byte 10) may stand before, between and behind "
      + "tokens.")
  static void spaces() {
    good(" \n day \n 5 \n ; \n ", 1);
    good("day5;day6;", 2);
    good(" ", 0);
    good("\n", 0);
    for (int beside : new int[] {0, 9, 11, 12, 13, 31, 33, 127}) {
      wrong((char) beside + "day 5;", 1, 0);
      wrong("day" + (char) beside + "5;", 1, 3);
      wrong("day 5" + (char) beside + ";", 1, 5);
      wrong("day 5;" + (char) beside, 1, 6);
    }
  }

  @Says(at = "SETUP TEXTS", words = "Numbers may have any number of digits.")
  static void digits() {
    good("day 0;", 1);
    good("day " + "0".repeat(495) + ";", 1);
    Campground x = Due.made("day " + "0".repeat(492) + "999;");
    Due.same("its value", x.today(), 999);
    wrong("day " + "0".repeat(491) + "1000;", 2, 4);
    wrong("day " + "9".repeat(495) + ";", 2, 4);
    for (String wrapped : new String[] {"256", "65536", "2147483648", "4294967296", "4294967301",
        "18446744073709551616", "18446744073709551621"}) {
      wrong("class 1 0 " + wrapped + ";", 2, 10);
    }
  }

  @Says(at = "SETUP TEXTS", words = "setup = { statement \";\" }")
  static void statements() {
    good("", 0);
    good("day 1;", 1);
    good("day1;".repeat(100), 100);
    wrong(";", 1, 0);
    wrong("day 1", 1, 5);
    wrong("day 1;day 2", 1, 11);
    wrong("day 1 day 2;", 1, 6);
    wrong("day 1;;day 2;", 1, 6);
    wrong("5;", 1, 0);
  }

  @Says(at = "SETUP TEXTS", words = "statement = \"class\" WINDOW SHORT QUOTA | \"site\" CLASS { CLASS } | \"season\" "
      + "CLASS FIRST LAST MINIMUM PRICE | \"day\" DAY")
  static void statementForms() {
    good("class 1 1 1;", 1);
    wrong("class;", 1, 5);
    wrong("class 1;", 1, 7);
    wrong("class 1 1;", 1, 9);
    wrong("class 1 1 1 1;", 1, 12);
    String one = "class 1 1 1;";
    good(one + "site 0;", 2);
    good(one + "site 0 0;", 2);
    wrong(one + "site;", 1, 16);
    wrong(one + "site 0 site 0;", 1, 19);
    good(one + "season 0 1 2 3 4;", 2);
    wrong(one + "season;", 1, 18);
    wrong(one + "season 0;", 1, 20);
    wrong(one + "season 0 1;", 1, 22);
    wrong(one + "season 0 1 2;", 1, 24);
    wrong(one + "season 0 1 2 3;", 1, 26);
    wrong(one + "season 0 1 2 3 4 5;", 1, 29);
    good("day 1;", 1);
    wrong("day;", 1, 3);
    wrong("day 1 2;", 1, 6);
    for (String word : new String[] {"clas", "classs", "sit", "sites", "seaso", "seasons", "da", "days", "x",
        "xlass", "clasx", "xite", "sitx", "xeason", "seasox", "xay", "dax"}) {
      wrong(word + " 1 1 1;", 1, 0);
    }
  }

  @Says(at = "SETUP TEXTS", words = "\"class\" adds a class, \"site\" adds a site of each given class in turn, \"season\" "
      + "adds a season, and \"day\" sets the present day (0 without it; it can be repeated, and the last one counts).")
  static void whatStatementsDo() {
    Campground x = Due.made("class 9 5 1; class 20 10 3; site 1 0 1 0 0; season 1 4 6 2 30; season 1 6 8 3 40;");
    Due.same("classes", x.classCount(), 2);
    int[] classes = {1, 0, 1, 0, 0};
    for (int s = 0; s < 5; s++) {
      Due.same("class of site " + s, x.classOf(s), classes[s]);
    }
    Due.same("short window", x.released(0, 5), 3);
    Due.same("quota", x.released(0, 9), 1);
    Due.same("window", x.released(0, 10), 0);
    Due.same("the first season", x.price(1, 5), 30);
    Due.same("the second season", x.price(1, 6), 40);
    Due.same("its minimum", x.minimum(1, 8), 3);
    Due.same("0 without it", x.today(), 0);
    Due.same("once", Due.made("day 7;").today(), 7);
    Due.same("the last one counts", Due.made("day 7; day 999; class 1 1 1; day 3;").today(), 3);
    Due.same("back to 0", Due.made("day 7; day 0;").today(), 0);
  }

  @Says(at = "SETUP TEXTS", words = "The numbers have the ranges given above; CLASS is a class that was added before, LAST "
      + "is at least FIRST, and DAY is 0 to 999.")
  static void ranges() {
    good("class 1 0 0;", 1);
    good("class 200 200 16;", 1);
    good("class 1 1 0;", 1);
    wrong("class 0 0 0;", 2, 6);
    wrong("class 201 0 0;", 2, 6);
    wrong("class 1 2 0;", 2, 8);
    wrong("class 200 201 0;", 2, 10);
    wrong("class 1 0 17;", 2, 10);
    wrong("site 0;", 2, 5);
    wrong("site 0;class 1 1 1;", 2, 5);
    wrong("class 1 1 1;site 1;class 1 1 1;", 2, 17);
    good("class 1 1 1;class 1 1 1;site 1;", 3);
    wrong("class 1 1 1;site 0 1;", 2, 19);
    wrong("season 0 1 2 3 4;", 2, 7);
    wrong("class 1 1 1;season 1 1 2 3 4;", 2, 19);
    good("class 1 1 1;season 0 0 0 1 0;", 2);
    good("class 1 1 1;season 0 999 999 14 9999;", 2);
    wrong("class 1 1 1;season 0 1000 1000 1 0;", 2, 21);
    wrong("class 1 1 1;season 0 5 4 1 0;", 2, 23);
    wrong("class 1 1 1;season 0 5 1000 1 0;", 2, 23);
    wrong("class 1 1 1;season 0 5 5 0 0;", 2, 25);
    wrong("class 1 1 1;season 0 5 5 15 0;", 2, 25);
    wrong("class 1 1 1;season 0 5 5 1 10000;", 2, 27);
    good("day 0;", 1);
    good("day 999;", 1);
    wrong("day 1000;", 2, 4);
  }

  @Says(at = "SETUP TEXTS", words = "Errors in a text: the parser reads the tokens from the first one on and stops at the "
      + "first token that is wrong.")
  static void firstWrongToken() {
    wrong("day 1000; ?", 2, 4);
    wrong("day 1000 1000", 2, 4);
    wrong("? day 1000;", 1, 0);
    wrong("day 5 ? day 1000;", 1, 6);
    wrong(FOUR_CLASSES + "class ?", 3, 48);
    wrong("day 1000; " + FOUR_CLASSES + "class 1 1 1;", 2, 4);
    wrong("class 1 1 17; day", 2, 10);
    wrong("day x" + " ".repeat(400) + "?", 1, 4);
  }

  @Says(at = "SETUP TEXTS", words = "The error position is the index of its first byte, or the length of the text if the "
      + "text ends too early.")
  static void errorPositions() {
    wrong("xyz", 1, 0);
    wrong("\n\nxyz", 1, 2);
    wrong("day   0001000;", 2, 6);
    wrong("day", 1, 3);
    wrong("day ", 1, 4);
    wrong("day 5", 1, 5);
    wrong("day 5 \n ", 1, 8);
    wrong("class 1 1", 1, 9);
    wrong("class 1 1 1;site", 1, 16);
    wrong("class 1 1 1;site 0", 1, 18);
    wrong("class 1 1 1;season 0 1 2 3", 1, 26);
    wrong("day 5" + " ".repeat(495), 1, 500);
    wrong(" ".repeat(499) + "x", 1, 499);
    wrong("day " + "0".repeat(496), 1, 500);
    wrong("x".repeat(500), 1, 0);
  }

  @Says(at = "SETUP TEXTS", words = "The error code is 1 if the token is not allowed there or a byte belongs to no token, "
      + "2 if a number is out of its range, and 3 for the word \"class\" of a 5th class, the word \"season\" of a 13th "
      + "season, or the CLASS of a 17th site.")
  static void errorCodes() {
    wrong("5;", 1, 0);
    wrong("?", 1, 0);
    wrong("day 1000;", 2, 4);
    good(FOUR_CLASSES, 4);
    wrong(FOUR_CLASSES + "class 1 1 1;", 3, 48);
    wrong(FOUR_CLASSES + "  class", 3, 50);
    wrong(FOUR_CLASSES + "class 0", 3, 48);
    good(TWELVE_SEASONS, 13);
    wrong(TWELVE_SEASONS + "season 0 1 2 3 4;", 3, TWELVE_SEASONS.length());
    wrong(TWELVE_SEASONS + "season 1", 3, TWELVE_SEASONS.length());
    wrong(TWELVE_SEASONS + "season", 3, TWELVE_SEASONS.length());
    good(SIXTEEN_SITES + ";", 2);
    wrong(SIXTEEN_SITES + " 0;", 3, SIXTEEN_SITES.length() + 1);
    wrong(SIXTEEN_SITES + ";site 0;", 3, SIXTEEN_SITES.length() + 6);
    wrong(SIXTEEN_SITES + " 000 0;", 3, SIXTEEN_SITES.length() + 1);
  }

  @Says(at = "SETUP TEXTS", words = "If two codes apply at one token, it is the lower one.")
  static void lowerCode() {
    wrong(SIXTEEN_SITES + " 1;", 2, SIXTEEN_SITES.length() + 1);
    wrong(SIXTEEN_SITES + " 4294967296;", 2, SIXTEEN_SITES.length() + 1);
    wrong(SIXTEEN_SITES + ";site 1;", 2, SIXTEEN_SITES.length() + 6);
    wrong(FOUR_CLASSES + "day class", 1, 52);
    wrong(FOUR_CLASSES + "class".repeat(2), 1, 48);
    wrong(TWELVE_SEASONS + "day season", 1, TWELVE_SEASONS.length() + 4);
    wrong("class 1 1 1 1000;", 1, 12);
    wrong("day 5 1000;", 1, 6);
    wrong("1000", 1, 0);
  }

  @Says(at = "Promise 50", words = "Appends four bytes to the text buffer, the highest byte of the parameter first.")
  static void fourBytes() {
    Campground x = new Campground();
    x.appendText('d' << 24 | 'a' << 16 | 'y' << 8 | '1');
    x.appendText('2' << 24 | '3' << 16 | ';' << 8 | ' ');
    Due.same("load", x.load(), 1);
    Due.same("today", x.today(), 123);
  }

  @Says(at = "Promise 50", words = "`fourBytes`: the bytes")
  static void anyBytes() {
    int[][] want = {{0, 0}, {-1, 0}, {Edges.MIN, 0}, {Edges.MAX, 0}, {0x20202020, -1}, {0x0a0a0a0a, -1},
        {0x20202080, 3}, {0x2020ff20, 2}, {0x200a0020, 2}, {0x20610a20, 1}};
    for (int[] w : want) {
      Campground x = new Campground();
      Due.same("appendText", x.appendText(w[0]), 4);
      Due.same("load of " + Integer.toHexString(w[0]), x.load(), w[1] < 0 ? 0 : NONE);
      Due.same("errorPosition of " + Integer.toHexString(w[0]), x.errorPosition(), w[1]);
    }
  }

  @Says(at = "Promise 50", words = "Returns the length of the text in bytes.")
  static void lengths() {
    Campground x = new Campground();
    for (int length = 4; length <= 500; length += 4) {
      Due.same("appendText", x.appendText(0), length);
    }
    x.truncateText(3);
    Due.same("after a cut", x.appendText(0), 7);
    x.load();
    Due.same("after a load", x.appendText(0), 4);
  }

  @Says(at = "Promise 50", words = "Throws `IllegalStateException` if the text would be longer than 500 bytes")
  static void tooLong() {
    for (int length = 496; length <= 500; length++) {
      Campground x = new Campground();
      Due.write(x, " ".repeat(length));
      if (length == 496) {
        Due.same("to 500", x.appendText(0x20202020), 500);
      }
      Due.thrown("from " + length, x, Due.STATE, () -> x.appendText(0x20202020));
      Due.same("the text is as it was", x.load(), 0);
    }
  }

  @Says(at = "Promise 51", words = "Cuts the text to its first bytes.")
  static void firstBytes() {
    Campground x = new Campground();
    Due.write(x, "day 12;day 345;");
    x.truncateText(7);
    Due.same("the first statement", x.load(), 1);
    Due.same("today", x.today(), 12);
    Due.write(x, "day 12;?");
    x.truncateText(5);
    x.appendText(';' << 24 | ' ' << 16 | ' ' << 8 | ' ');
    Due.same("the cut bytes do not come back", x.load(), 1);
    Due.same("today", x.today(), 1);
    Due.write(x, "day 9999");
    x.truncateText(7);
    Due.same("a number is cut", x.load(), NONE);
    Due.same("999 is a day, but the text ends too early", x.errorCode(), 1);
    Due.same("at its end", x.errorPosition(), 7);
    Due.write(x, "dayday");
    x.truncateText(3);
    Due.same("a word is cut", x.load(), NONE);
    Due.same("day is a word", x.errorPosition(), 3);
    Due.write(x, "day 5; ?");
    x.truncateText(7);
    Due.same("a wrong byte is cut", x.load(), 1);
  }

  @Says(at = "Promise 51", words = "`length`: the new length, 0 to the present length")
  static void truncateLengths() {
    Campground x = new Campground();
    Due.same("0 of an empty text", x.truncateText(0), 0);
    for (int length = 4; length <= 500; length += 4) {
      x.appendText(0x20202020);
      Due.same("the present length", x.truncateText(length), length);
    }
    Due.same("one byte less", x.truncateText(499), 499);
    Due.same("one byte", x.truncateText(1), 1);
    Due.same("nothing", x.truncateText(0), 0);
    Due.same("nothing again", x.truncateText(0), 0);
  }

  @Says(at = "Promise 51", words = "Returns the new length.")
  static void newLength() {
    Campground x = new Campground();
    Due.write(x, "day 5;");
    Due.same("truncateText(6)", x.truncateText(6), 6);
    Due.same("truncateText(2)", x.truncateText(2), 2);
    Due.same("the text is so long", x.appendText(0), 6);
  }

  @Says(at = "Promise 51", words = "Throws `IllegalArgumentException` if length is out of range")
  static void wrongLength() {
    for (int length : new int[] {0, 1, 4, 499, 500}) {
      Campground x = new Campground();
      Due.write(x, " ".repeat(length));
      for (int wrong : new int[] {Edges.MIN, -1, length + 1, 501, Edges.MAX}) {
        Due.thrown(wrong + " of " + length, x, Due.ARGUMENT, () -> x.truncateText(wrong));
      }
    }
    Campground cut = new Campground();
    Due.write(cut, "day 5;");
    cut.truncateText(3);
    Due.thrown("back to the length before", cut, Due.ARGUMENT, () -> cut.truncateText(6));
    cut.load();
    Due.thrown("after a load", cut, Due.ARGUMENT, () -> cut.truncateText(1));
  }

  @Says(at = "Promise 52", words = "Reads the text as a setup, which replaces everything except saved states; there are "
      + "no bookings, closings and requests then.")
  static void loadReplaces() {
    Campground x = busy();
    x.save(0);
    String before = Due.seen(x);
    Due.same("an empty text", x.load(), 0);
    Due.same("as new", Due.seen(x).equals(Due.seen(new Campground())) ? 1 : 0, 1);
    x.restore(0);
    Due.same("the saved state", Due.seen(x).equals(before) ? 1 : 0, 1);
    String same = "class 50 50 9; class 50 50 9; site 0 0 1; season 0 3 9 2 33; day 2;";
    Due.write(x, same);
    x.load();
    Due.same("the setup alone", Due.seen(x).equals(Due.seen(Due.made(same))) ? 1 : 0, 1);
    Due.same("no bookings", x.bookingCount(), 0);
    Due.thrown("no closings", x, Due.STATE, () -> x.open(1));
    Due.thrown("no requests", x, Due.INDEX, () -> x.requestState(0));
    Due.same("the next season is the second one", x.addSeason(0, 0, 0, 1, 1), 1);
    Due.same("the next booking is the first one", x.book(0, 2, 1), 0);
    Due.same("the next request is the first one", x.request(0, 2, 1), 0);
  }

  @Says(at = "Promise 52", words = "The text buffer is empty afterwards, also if there is an error.")
  static void emptyAfterwards() {
    for (String text : new String[] {"", "day 5;", "day 1000;", "?", "day", " ".repeat(500), "?".repeat(500)}) {
      Campground x = new Campground();
      Due.write(x, text);
      x.load();
      Due.thrown("nothing to cut", x, Due.ARGUMENT, () -> x.truncateText(1));
      Due.same("the next four bytes are the first", x.appendText(0x20202020), 4);
      Due.same("and nothing else is there", x.load(), 0);
    }
  }

  @Says(at = "Promise 52", words = "Returns the number of statements; NONE if the text has an error (the campground "
      + "stays).")
  static void numberOfStatements() {
    good("", 0);
    good("\n", 0);
    good("day 1;", 1);
    good("class 1 1 1;site 0 0 0;day 1;", 3);
    for (String text : new String[] {"?", "day 1000;", "day 5;day", FOUR_CLASSES + "class",
        "class 9 9 9;site 0 0;season 0 0 999 14 1;day 77;x", SIXTEEN_SITES + " 0;"}) {
      Campground x = busy();
      Campground untouched = busy();
      Due.write(x, text);
      Due.same("load", x.load(), NONE);
      Due.same("error", x.errorCode() > 0 ? 1 : 0, 1);
      Due.same("the campground stays", Due.seenCamp(x).equals(Due.seenCamp(untouched)) ? 1 : 0, 1);
      Due.same("its closing too", x.open(1), 20);
      Due.same("its requests too", x.fill(0), untouched.fill(0));
      Due.same("and go on alike", Due.seenCamp(x).equals(Due.seenCamp(opened(untouched))) ? 1 : 0, 1);
    }
  }

  private static Campground opened(Campground x) {
    x.open(1);
    return x;
  }

  /** Something of everything, on day 2. */
  private static Campground busy() {
    Campground x = Due.made("class 50 50 9; class 50 50 9; site 0 0 1; season 0 3 9 2 33; day 2;");
    x.book(0, 2, 3);
    x.book(1, 4, 2);
    x.checkIn(0, 0);
    x.close(1, 20);
    x.request(0, 30, 2);
    x.request(0, 31, 2);
    return x;
  }

  @Says(at = "Promise 53", words = "Returns the error code of the latest load(); 0 if its text had no error, or if there "
      + "was no such call.")
  static void latestCode() {
    Campground x = new Campground();
    Due.same("no call yet", x.errorCode(), 0);
    Due.write(x, "?");
    Due.same("a text that was not loaded", x.errorCode(), 0);
    int[] codes = {1, 2, 0, 3, 0};
    String[] texts = {"?", "day 1000;", "day 5;", FOUR_CLASSES + "class", ""};
    for (int i = 0; i < codes.length; i++) {
      Due.write(x, texts[i]);
      x.load();
      Due.same("after load " + i, x.errorCode(), codes[i]);
      Due.same("asked again", x.errorCode(), codes[i]);
    }
  }

  @Says(at = "Promise 54", words = "Returns the error position of the latest load(); NONE if its text had no error, or if "
      + "there was no such call.")
  static void latestPosition() {
    Campground x = new Campground();
    Due.same("no call yet", x.errorPosition(), NONE);
    Due.write(x, "?");
    Due.same("a text that was not loaded", x.errorPosition(), NONE);
    int[] positions = {0, 4, NONE, 48, NONE};
    String[] texts = {"?", "day 1000;", "day 5;", FOUR_CLASSES + "class", ""};
    for (int i = 0; i < positions.length; i++) {
      Due.write(x, texts[i]);
      x.load();
      Due.same("after load " + i, x.errorPosition(), positions[i]);
      Due.same("asked again", x.errorPosition(), positions[i]);
    }
  }
}
