import java.lang.reflect.InvocationTargetException;
import java.lang.reflect.Method;
import java.util.Arrays;
import java.util.Comparator;
import java.util.Random;

/** Runs of calls from a fixed seed: every answer must be that of Reference, and no call may fail by itself. */
public final class RandomRunsTest {
  private static final int RUNS = 400;
  private static final int CALLS = 512;
  private static final String[] WORDS = {"class ", "site ", "season ", "day ", ";", "; ", "\n", " ", "0 ", "1 ", "2 ",
      "5 ", "14 ", "16 ", "200 ", "999 ", "1000 ", "00003 ", "99999999999 ", "x ", "Z", "\u00ff"};

  private static Random random;
  private static Method[] face;
  private static int wrong = 0;

  public static void main(String[] args) throws Exception {
    face = Arrays.stream(Reference.class.getDeclaredMethods())
        .filter(m -> java.lang.reflect.Modifier.isPublic(m.getModifiers())).toArray(Method[]::new);
    // The order of reflection is not fixed, but the runs shall be.
    Arrays.sort(face, Comparator.comparing(Method::getName));
    Due.same("methods in Reference", face.length, 55);
    int runs = args.length > 0 ? Integer.parseInt(args[0]) : RUNS;
    for (int run = 0; run < runs && wrong < 20; run++) {
      random = new Random(run);
      run(run);
    }
    Due.same("wrong answers", wrong, 0);
    Due.end();
  }

  private static void run(int run) throws Exception {
    Campground camp = new Campground();
    Reference due = new Reference();
    int calls = 0;
    if (run % 8 != 0) {
      calls += set(run, camp, due);
    }
    boolean early = run % 2 == 0;
    while (calls < CALLS && wrong < 20) {
      if (random.nextInt(250) == 0) {
        calls += text(run, camp, due, someText());
        continue;
      }
      Method m = random.nextInt(3) == 0 ? favourite() : face[random.nextInt(face.length)];
      if (m.getName().equals("load") && random.nextInt(5) != 0 || early && m.getName().equals("endDays")) {
        early = random.nextInt(3) != 0;
        continue;
      }
      compare(run, camp, due, m.getName(), arguments(m, due));
      calls++;
    }
  }

  private static Method favourite() {
    String[] names = {"book", "book", "book", "checkIn", "request", "fill", "close", "extend", "endDays"};
    String name = names[random.nextInt(names.length)];
    return Arrays.stream(face).filter(m -> m.getName().equals(name)).findFirst().orElseThrow();
  }

  /** A campground in which something can happen. */
  private static int set(int run, Campground camp, Reference due) throws Exception {
    StringBuilder setup = new StringBuilder();
    int classes = 1 + random.nextInt(4);
    for (int c = 0; c < classes; c++) {
      int window = 1 + random.nextInt(random.nextBoolean() ? 40 : 200);
      setup.append("class ").append(window).append(' ').append(random.nextInt(window + 1)).append(' ')
          .append(random.nextInt(6)).append(';');
    }
    setup.append("site");
    for (int s = 1 + random.nextInt(16); s > 0; s--) {
      setup.append(' ').append(random.nextInt(classes));
    }
    setup.append(";");
    int day = random.nextInt(4) == 0 ? 940 + random.nextInt(60) : random.nextInt(100);
    setup.append("day ").append(day).append(';');
    for (int s = random.nextInt(8); s > 0; s--) {
      int first = Math.min(999, day + random.nextInt(40));
      int last = Math.min(999, first + random.nextInt(20));
      setup.append("season ").append(random.nextInt(classes)).append(' ').append(first).append(' ').append(last)
          .append(' ').append(1 + random.nextInt(6)).append(' ').append(random.nextInt(60)).append(';');
    }
    return text(run, camp, due, setup.toString());
  }

  private static String someText() {
    StringBuilder text = new StringBuilder();
    String good = "class 60 30 2;site 0 0 0;day 12;season 0 14 40 3 31;class 9 9 9;site 1 0;";
    text.append(good, 0, random.nextBoolean() ? good.length() : random.nextInt(good.length()));
    for (int i = random.nextInt(6); i > 0; i--) {
      String word = WORDS[random.nextInt(WORDS.length)];
      text.insert(random.nextInt(4) == 0 ? random.nextInt(text.length() + 1) : text.length(), word);
    }
    return text.toString();
  }

  private static int text(int run, Campground camp, Reference due, String text) throws Exception {
    compare(run, camp, due, "truncateText", new Object[] {0});
    int calls = 3;
    for (int at = 0; at < text.length(); at += 4) {
      int four = 0;
      for (int i = at; i < at + 4; i++) {
        four = four << 8 | (i < text.length() ? text.charAt(i) : ' ');
      }
      compare(run, camp, due, "appendText", new Object[] {four});
      calls++;
    }
    compare(run, camp, due, "truncateText", new Object[] {text.length()});
    compare(run, camp, due, "load", new Object[0]);
    compare(run, camp, due, "errorCode", new Object[0]);
    compare(run, camp, due, "errorPosition", new Object[0]);
    return calls + 2;
  }

  private static Object[] arguments(Method m, Reference due) {
    Class<?>[] types = m.getParameterTypes();
    Object[] values = new Object[types.length];
    for (int i = 0; i < types.length; i++) {
      values[i] = types[i] == boolean.class ? (Object) random.nextBoolean() : (Object) number(m.getName(), i, due);
    }
    return values;
  }

  private static int number(String name, int place, Reference due) {
    if (random.nextInt(40) == 0) {
      int[] odd = {Integer.MIN_VALUE, Integer.MAX_VALUE, -2, -1, 0, 1, 2, 28, 29, 60, 61, 998, 999, 1000};
      return odd[random.nextInt(odd.length)];
    }
    int near = due.today() + random.nextInt(random.nextBoolean() ? 6 : 60) - (random.nextInt(12) == 0 ? 3 : 0);
    switch (name) {
      case "addClass":
        return random.nextInt(new int[] {210, 20, 18}[place]);
      case "addSeason":
        return place == 0 ? kind(due) : place < 3 ? near : place == 3 ? random.nextInt(16) : random.nextInt(90);
      case "classOf":
        return random.nextInt(17) - 1;
      case "checkIn":
      case "move":
        return place == 0 ? stay(due) : random.nextInt(due.siteCount() + 2) - 1;
      case "close":
        return place == 0 ? random.nextInt(due.siteCount() + 1) : near;
      case "open":
        return random.nextInt(due.siteCount() + 1);
      case "bookingState", "bookingClass", "arrival", "departure", "cost", "siteOf", "cancel", "departEarly":
        return stay(due);
      case "extend":
        return place == 0 ? stay(due) : random.nextInt(6);
      case "planSite":
        return place == 0 ? stay(due) : random.nextInt(2);
      case "endDays":
        return random.nextInt(8) == 0 ? random.nextInt(62) : 1;
      case "requestState", "bookingOf", "withdraw":
        return random.nextInt(20);
      case "gapNights", "orphanNights":
        return place == 0 ? kind(due) : random.nextInt(2);
      case "cheapestArrival":
        return place == 0 ? kind(due) : place == 1 ? 1 + random.nextInt(5) : place == 2 ? near : near + 30;
      case "occupancyNumerator", "occupancyDenominator", "busiestNight":
        return place == 0 ? kind(due) : place == 1 ? near : near + random.nextInt(60);
      case "save", "restore":
        return random.nextInt(2);
      case "appendText":
        return random.nextInt();
      case "truncateText":
        return random.nextInt(20);
      case "expected":
        return place == 0 ? kind(due) - random.nextInt(2) : near;
      default:
        return place == 0 ? kind(due) : place == 1 ? near : 1 + random.nextInt(random.nextInt(6) == 0 ? 28 : 5);
    }
  }

  private static int kind(Reference due) {
    return random.nextInt(12) == 0 ? random.nextInt(5) : random.nextInt(Math.max(1, due.classCount()));
  }

  private static int stay(Reference due) {
    int count = due.bookingCount();
    // Bookings that can arrive today are rare, so they are looked for.
    for (int i = 0; i < 6 && count > 0; i++) {
      int b = random.nextInt(count);
      if (due.bookingState(b) == 1 || due.bookingState(b) == 0 && due.arrival(b) == due.today()) {
        return b;
      }
    }
    return random.nextInt(count + 1);
  }

  private static void compare(int run, Campground camp, Reference due, String name, Object[] values) throws Exception {
    Object want = answer(due, name, values);
    Object got = answer(camp, name, values);
    if (!want.equals(got)) {
      wrong++;
      System.out.println("run " + run + ": " + name + Arrays.toString(values) + " answered " + got + ", due is " + want);
    }
  }

  private static Object answer(Object target, String name, Object[] values) throws Exception {
    Class<?>[] types = new Class<?>[values.length];
    for (int i = 0; i < values.length; i++) {
      types[i] = values[i] instanceof Boolean ? boolean.class : int.class;
    }
    try {
      Object answer = target.getClass().getMethod(name, types).invoke(target, values);
      return answer == null ? "nothing" : answer;
    } catch (InvocationTargetException e) {
      return e.getCause().getClass();
    }
  }
}
