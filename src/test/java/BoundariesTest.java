import java.io.IOException;
import java.lang.reflect.InvocationTargetException;
import java.lang.reflect.Method;
import java.lang.reflect.Modifier;
import java.nio.file.Path;
import java.util.ArrayList;
import java.util.Arrays;
import java.util.Comparator;
import java.util.LinkedHashMap;
import java.util.List;
import java.util.Map;

/**
 * Runs the test of each sentence of the document that names a boundary case, and finds sentences without a test.
 * With the argument 'list' it tells for each sentence which test holds the class to it.
 */
public final class BoundariesTest {
  private static final Path DOCUMENT = Path.of("../shared/DOC.md");

  private static final List<Class<?>> GROUPS = List.of(GeneralBoundaries.class, ClassesBoundaries.class,
      AvailabilityBoundaries.class, BookingsBoundaries.class, DaysBoundaries.class, RequestsBoundaries.class,
      PlansBoundaries.class, SetupTextBoundaries.class, SavedStatesBoundaries.class);

  /** Sentences that stand in many promises: the sentences with 'Throws' beside them name the cases. */
  private static final List<String> EVERYWHERE = List.of("`siteClass`: a class", "`site`: a site",
      "`booking`: a booking", "`request`: a request");

  /** Sentences that name no boundary case; what they say is tested in the test of their part. */
  private static final List<Document.Sentence> WITHOUT_A_CASE = List.of(
      said("What it is", "The reservations of a campground."),
      said("Terms", "Guests book nights in a class of sites; which site they get is decided when they arrive."),
      said("Terms", "Nights are released in two rolling windows, stays have minimum numbers of nights by season, gaps "
          + "may be filled by shorter stays, and sites can be closed."),
      said("CLASSES, SITES AND DAYS", "A site belongs to a class."),
      said("Promise 2", "Adds a class."),
      said("Promise 2", "Returns the number of the class."),
      said("Promise 3", "Adds a site."),
      said("Promise 3", "Returns the number of the site."),
      said("Promise 4", "Adds a season."),
      said("Promise 4", "Returns the number of the season."),
      said("Promise 7", "Returns its class."),
      said("Promise 8", "Returns the minimum number of nights for an arrival on this day."),
      said("Promise 9", "Returns the price of the night."),
      said("Promise 10", "Returns the capacity."),
      said("Promise 11", "Returns how many are released."),
      said("Promise 13", "Returns how many are available."),
      said("Promise 16", "Finds the cheapest arrival day."),
      said("Promise 17", "Finds a gap in the availability of a class."),
      said("Promise 18", "Books a stay."),
      said("Promise 18", "Returns the number of the booking."),
      said("Promise 21", "Returns its class."),
      said("Promise 22", "Returns its arrival day."),
      said("Promise 23", "Returns its departure day."),
      said("Promise 26", "Cancels a BOOKED booking."),
      said("Promise 26", "Returns the refund."),
      said("Promise 27", "Finds a site for tonight."),
      said("Promise 28", "Returns the site."),
      said("Promise 29", "Returns the previous site."),
      said("Promise 31", "Returns the sum of their prices."),
      said("Promise 32", "Ends days."),
      said("Promise 35", "Opens a closed site again."),
      said("Promise 36", "Adds a request."),
      said("Promise 36", "Returns the number of the request."),
      said("Promise 39", "Withdraws a WAITING request."),
      said("Promise 41", "Returns its site in the plan of its class."),
      said("Promise 46", "Counts those who are to arrive or to depart on a day."),
      said("Promise 46", "Returns the number of bookings."),
      said("Promise 48", "Finds the night on which most is taken."));

  private BoundariesTest() {
  }

  private static Document.Sentence said(String at, String words) {
    return new Document.Sentence(at, words);
  }

  public static void main(String[] args) throws IOException, IllegalAccessException {
    Map<Document.Sentence, List<String>> tests = new LinkedHashMap<>();
    for (Document.Sentence sentence : Document.sentences(DOCUMENT)) {
      tests.put(sentence, new ArrayList<>());
    }
    for (Class<?> group : GROUPS) {
      for (Method test : testsOf(group)) {
        run(test, tests);
      }
    }
    Due.about("");
    findUntested(tests);
    if (args.length > 0) {
      list(tests);
    }
    Due.end();
  }

  private static List<Method> testsOf(Class<?> group) {
    List<Method> found = new ArrayList<>();
    for (Method method : group.getDeclaredMethods()) {
      if (!Modifier.isPrivate(method.getModifiers()) && !method.isSynthetic()) {
        found.add(method);
      }
    }
    found.sort(Comparator.comparing(Method::getName));
    return found;
  }

  private static void run(Method test, Map<Document.Sentence, List<String>> tests) throws IllegalAccessException {
    String name = test.getDeclaringClass().getSimpleName() + "." + test.getName();
    Says says = test.getAnnotation(Says.class);
    if (says == null) {
      Due.same(name + " bears a sentence", 0, 1);
      return;
    }
    List<String> names = tests.get(said(says.at(), says.words()));
    Due.about(says.at() + ", " + name);
    Due.same("the document says so: " + says.words(), names == null ? 0 : 1, 1);
    if (names != null) {
      names.add(name);
    }
    try {
      test.invoke(null);
    } catch (InvocationTargetException e) {
      Due.same("threw " + e.getCause() + " at " + Arrays.toString(e.getCause().getStackTrace()), 0, 1);
    }
  }

  private static void findUntested(Map<Document.Sentence, List<String>> tests) {
    for (Map.Entry<Document.Sentence, List<String>> entry : tests.entrySet()) {
      Document.Sentence sentence = entry.getKey();
      boolean tested = !entry.getValue().isEmpty();
      Due.same("one test, or a reason for none: " + sentence, tested == isWithoutCase(sentence) ? 0 : 1, 1);
    }
    for (Document.Sentence sentence : WITHOUT_A_CASE) {
      Due.same("the document says so: " + sentence, tests.containsKey(sentence) ? 1 : 0, 1);
    }
  }

  private static boolean isWithoutCase(Document.Sentence sentence) {
    return WITHOUT_A_CASE.contains(sentence) || EVERYWHERE.contains(sentence.words())
        || sentence.words().startsWith("Ahead of the calls") || sentence.at().equals("Not promised");
  }

  private static void list(Map<Document.Sentence, List<String>> tests) {
    for (Map.Entry<Document.Sentence, List<String>> entry : tests.entrySet()) {
      String names = entry.getValue().isEmpty() ? "names no boundary case" : String.join(", ", entry.getValue());
      System.out.println(entry.getKey().at() + ": " + entry.getKey().words() + "\n    " + names);
    }
  }
}
