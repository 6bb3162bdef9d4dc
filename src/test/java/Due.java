/** Compares answers with those that are due, and tells the wrong ones. */
final class Due {
  static final Class<?> INDEX = IndexOutOfBoundsException.class;
  static final Class<?> ARGUMENT = IllegalArgumentException.class;
  static final Class<?> STATE = IllegalStateException.class;

  private static int wrong = 0;
  private static String about = "";

  private Due() {
  }

  /** What the next answers are about; it is told with the wrong ones. */
  static void about(String what) {
    about = what.isEmpty() ? "" : what + ": ";
  }

  /** How many answers were wrong so far. */
  static int wrong() {
    return wrong;
  }

  static void same(String call, long got, long want) {
    if (got != want) {
      wrong++;
      System.out.println(about + call + " answered " + got + ", due is " + want);
    }
  }

  /** The call must throw just this class, no subclass of it, and change nothing that can be seen. */
  static void thrown(String call, Campground camp, Class<?> want, Runnable run) {
    String before = seen(camp);
    Class<?> got = null;
    try {
      run.run();
    } catch (RuntimeException e) {
      got = e.getClass();
    }
    if (got != want) {
      wrong++;
      System.out.println(about + call + " threw " + got + ", due is " + want);
    }
    if (!before.equals(seen(camp))) {
      wrong++;
      System.out.println(about + call + " changed the campground");
    }
  }

  static void end() {
    if (wrong != 0) {
      System.out.println(wrong + " answers are not as due");
      System.exit(1);
    }
  }

  /** All that can be asked without changing anything, as one text. */
  static String seen(Campground camp) {
    return camp.errorCode() + " " + camp.errorPosition() + " " + textLength(camp) + "\n" + seenCamp(camp);
  }

  /** The same without the text buffer and the latest error. */
  static String seenCamp(Campground camp) {
    StringBuilder text = new StringBuilder();
    text.append(camp.today()).append(' ').append(camp.revenue()).append('\n');
    for (int s = 0; s < camp.siteCount(); s++) {
      text.append(camp.classOf(s)).append(' ');
    }
    for (int c = 0; c < camp.classCount(); c++) {
      text.append("\nclass ").append(c).append(' ').append(camp.vacantSite(c));
      for (int day = 0; day <= 999; day++) {
        text.append(' ').append(camp.minimum(c, day)).append(' ').append(camp.price(c, day));
        text.append(' ').append(camp.capacity(c, day)).append(' ').append(camp.released(c, day));
        text.append(' ').append(camp.taken(c, day)).append(' ').append(camp.available(c, day));
      }
    }
    for (int b = 0; b < camp.bookingCount(); b++) {
      text.append("\nbooking ").append(camp.bookingState(b)).append(' ').append(camp.bookingClass(b));
      text.append(' ').append(camp.arrival(b)).append(' ').append(camp.departure(b));
      text.append(' ').append(camp.cost(b)).append(' ').append(camp.siteOf(b));
    }
    for (int r = 0; isRequest(camp, r); r++) {
      text.append("\nrequest ").append(camp.requestState(r)).append(' ').append(camp.bookingOf(r));
    }
    return text.toString();
  }

  /** Found by cutting the text to just the length that it has. */
  private static int textLength(Campground camp) {
    for (int length = 500; length > 0; length--) {
      try {
        return camp.truncateText(length);
      } catch (IllegalArgumentException e) {
        continue;
      }
    }
    return 0;
  }

  private static boolean isRequest(Campground camp, int request) {
    try {
      camp.requestState(request);
      return true;
    } catch (IndexOutOfBoundsException e) {
      return false;
    }
  }

  /** Puts a text into the buffer, in the place of what is there. */
  static void write(Campground camp, String text) {
    camp.truncateText(0);
    for (int at = 0; at < text.length(); at += 4) {
      int four = 0;
      for (int i = at; i < at + 4; i++) {
        four = four << 8 | (i < text.length() ? text.charAt(i) & 255 : 0);
      }
      camp.appendText(four);
    }
    camp.truncateText(text.length());
  }

  /** A new campground with this setup. */
  static Campground made(String setup) {
    Campground camp = new Campground();
    write(camp, setup);
    if (camp.load() == Campground.NONE) {
      wrong++;
      System.out.println("the setup was refused: " + setup);
    }
    return camp;
  }
}
