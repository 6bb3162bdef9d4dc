import java.lang.reflect.Constructor;
import java.lang.reflect.Executable;
import java.lang.reflect.Field;
import java.lang.reflect.Method;
import java.lang.reflect.Modifier;
import java.util.Set;
import java.util.TreeSet;

/** The class has the document's public face and nothing more, and its private methods have names of their own. */
public final class FaceTest {
  /** As it stands in the section 'The public face' of the document. */
  private static final String DOCUMENT = """
      public static final int NONE = -1;
      public Campground();
      public int addClass(int window, int shortWindow, int quota) throws IllegalArgumentException, IllegalStateException;
      public int addSite(int siteClass) throws IndexOutOfBoundsException, IllegalStateException;
      public int addSeason(int siteClass, int first, int last, int minimum, int price) throws IndexOutOfBoundsException, IllegalArgumentException, IllegalStateException;
      public int classCount();
      public int siteCount();
      public int classOf(int site) throws IndexOutOfBoundsException;
      public int minimum(int siteClass, int day) throws IndexOutOfBoundsException, IllegalArgumentException;
      public int price(int siteClass, int day) throws IndexOutOfBoundsException, IllegalArgumentException;
      public int capacity(int siteClass, int night) throws IndexOutOfBoundsException;
      public int released(int siteClass, int night) throws IndexOutOfBoundsException;
      public int taken(int siteClass, int night) throws IndexOutOfBoundsException;
      public int available(int siteClass, int night) throws IndexOutOfBoundsException;
      public int obstacle(int siteClass, int arrival, int nights) throws IndexOutOfBoundsException, IllegalArgumentException;
      public int longestStay(int siteClass, int arrival) throws IndexOutOfBoundsException;
      public int cheapestArrival(int siteClass, int nights, int first, int last) throws IndexOutOfBoundsException, IllegalArgumentException;
      public int nextGap(int siteClass, int from) throws IndexOutOfBoundsException, IllegalArgumentException;
      public int book(int siteClass, int arrival, int nights) throws IndexOutOfBoundsException, IllegalArgumentException, IllegalStateException;
      public int bookingCount();
      public int bookingState(int booking) throws IndexOutOfBoundsException;
      public int bookingClass(int booking) throws IndexOutOfBoundsException;
      public int arrival(int booking) throws IndexOutOfBoundsException;
      public int departure(int booking) throws IndexOutOfBoundsException;
      public int cost(int booking) throws IndexOutOfBoundsException;
      public int siteOf(int booking) throws IndexOutOfBoundsException;
      public int cancel(int booking) throws IndexOutOfBoundsException, IllegalStateException;
      public int vacantSite(int siteClass) throws IndexOutOfBoundsException;
      public int checkIn(int booking, int site) throws IndexOutOfBoundsException, IllegalArgumentException, IllegalStateException;
      public int move(int booking, int site) throws IndexOutOfBoundsException, IllegalArgumentException, IllegalStateException;
      public int departEarly(int booking) throws IndexOutOfBoundsException, IllegalStateException;
      public int extend(int booking, int nights) throws IndexOutOfBoundsException, IllegalArgumentException, IllegalStateException;
      public int endDays(int days) throws IllegalArgumentException, IllegalStateException;
      public int today();
      public void close(int site, int until) throws IndexOutOfBoundsException, IllegalArgumentException, IllegalStateException;
      public int open(int site) throws IndexOutOfBoundsException, IllegalStateException;
      public int request(int siteClass, int arrival, int nights) throws IndexOutOfBoundsException, IllegalArgumentException, IllegalStateException;
      public int requestState(int request) throws IndexOutOfBoundsException;
      public int bookingOf(int request) throws IndexOutOfBoundsException;
      public void withdraw(int request) throws IndexOutOfBoundsException, IllegalStateException;
      public int fill(int siteClass) throws IndexOutOfBoundsException;
      public int planSite(int booking, int policy) throws IndexOutOfBoundsException, IllegalArgumentException, IllegalStateException;
      public int gapNights(int siteClass, int policy) throws IndexOutOfBoundsException, IllegalArgumentException;
      public int orphanNights(int siteClass, int policy) throws IndexOutOfBoundsException, IllegalArgumentException;
      public int occupancyNumerator(int siteClass, int first, int last) throws IndexOutOfBoundsException, IllegalArgumentException;
      public int occupancyDenominator(int siteClass, int first, int last) throws IndexOutOfBoundsException, IllegalArgumentException;
      public int expected(int siteClass, int day, boolean departing) throws IndexOutOfBoundsException, IllegalArgumentException;
      public int dearestBooking(int siteClass) throws IndexOutOfBoundsException;
      public int busiestNight(int siteClass, int first, int last) throws IndexOutOfBoundsException, IllegalArgumentException;
      public int revenue();
      public int appendText(int fourBytes) throws IllegalStateException;
      public int truncateText(int length) throws IllegalArgumentException;
      public int load();
      public int errorCode();
      public int errorPosition();
      public void save(int slot) throws IllegalArgumentException;
      public void restore(int slot) throws IllegalArgumentException, IllegalStateException;
      """;

  public static void main(String[] args) {
    Set<String> want = documented();
    Set<String> got = built();
    Due.same("the number of members in the document", want.size(), 1 + 1 + 55);
    for (String member : want) {
      Due.same("has " + member, got.contains(member) ? 1 : 0, 1);
    }
    for (String member : got) {
      Due.same("the document has " + member, want.contains(member) ? 1 : 0, 1);
    }
    Due.same("final", Modifier.isFinal(Campground.class.getModifiers()) ? 1 : 0, 1);
    privateNames();
    Due.end();
  }

  private static Set<String> documented() {
    Set<String> members = new TreeSet<>();
    for (String line : DOCUMENT.split("\n")) {
      members.add(line.replaceAll("( = [^;]*)?;$", "").replaceAll("\\b(int|boolean) \\w+(?=[,)])", "$1"));
    }
    return members;
  }

  private static Set<String> built() {
    Set<String> members = new TreeSet<>();
    for (Field f : Campground.class.getDeclaredFields()) {
      if (!Modifier.isPrivate(f.getModifiers())) {
        members.add(Modifier.toString(f.getModifiers()) + " " + f.getType().getSimpleName() + " " + f.getName());
      }
    }
    for (Constructor<?> c : Campground.class.getDeclaredConstructors()) {
      members.add(Modifier.toString(c.getModifiers()) + " Campground" + behindTheName(c));
    }
    for (Method m : Campground.class.getDeclaredMethods()) {
      if (!Modifier.isPrivate(m.getModifiers())) {
        members.add(Modifier.toString(m.getModifiers()) + " " + m.getReturnType().getSimpleName() + " " + m.getName()
            + behindTheName(m));
      }
    }
    return members;
  }

  private static String behindTheName(Executable e) {
    String text = "(" + joined(e.getParameterTypes()) + ")";
    return e.getExceptionTypes().length == 0 ? text : text + " throws " + joined(e.getExceptionTypes());
  }

  private static String joined(Class<?>[] types) {
    StringBuilder text = new StringBuilder();
    for (Class<?> type : types) {
      text.append(text.length() == 0 ? "" : ", ").append(type.getSimpleName());
    }
    return text.toString();
  }

  private static void privateNames() {
    Set<String> faceNames = new TreeSet<>();
    for (Method m : Campground.class.getDeclaredMethods()) {
      if (Modifier.isPublic(m.getModifiers())) {
        faceNames.add(m.getName());
      }
    }
    checkPrivate(Campground.class, faceNames);
    for (Class<?> inside : Campground.class.getDeclaredClasses()) {
      checkPrivate(inside, faceNames);
    }
  }

  private static void checkPrivate(Class<?> type, Set<String> faceNames) {
    for (Method m : type.getDeclaredMethods()) {
      if (Modifier.isPrivate(m.getModifiers())) {
        Due.same("private " + m.getName() + " bears a public name", faceNames.contains(m.getName()) ? 1 : 0, 0);
      }
    }
  }
}
