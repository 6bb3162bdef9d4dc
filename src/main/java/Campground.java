import java.util.Arrays;

/** The reservations of a campground, as ../shared/DOC.md promises them. */
public final class Campground {
  public static final int NONE = -1;

  private static final int MAX_CLASSES = 4;
  private static final int MAX_SITES = 16;
  private static final int MAX_SEASONS = 12;
  private static final int MAX_BOOKINGS = 60;
  private static final int MAX_REQUESTS = 20;
  private static final int MAX_TEXT = 500;
  private static final int SLOTS = 2;

  private static final int LAST_DAY = 999;
  private static final int LAST_NIGHT = 998;
  private static final int MAX_WINDOW = 200;
  private static final int MAX_QUOTA = 16;
  private static final int MAX_MINIMUM = 14;
  private static final int MAX_PRICE = 9999;
  private static final int MAX_NIGHTS = 28;
  private static final int MAX_DAYS_ENDED = 60;
  private static final int USUAL_MINIMUM = 1;
  private static final int USUAL_PRICE = 20;
  private static final int FULL_REFUND_DAYS = 14;
  private static final int HALF_REFUND_DAYS = 3;

  private static final int NO_OBSTACLE = 0;
  private static final int WINDOW = 1;
  private static final int SOLD_OUT = 2;
  private static final int TOO_SHORT = 3;

  private final Camp camp;
  private final Camp draft;
  private final Camp[] saved;
  private final StayJudge judge;
  private final Plan plan;
  private final byte[] text;
  private final SetupReader reader;
  private int textLength;

  public Campground() {
    camp = new Camp();
    draft = new Camp();
    saved = new Camp[SLOTS];
    judge = new StayJudge(camp);
    plan = new Plan(camp);
    text = new byte[MAX_TEXT];
    reader = new SetupReader(text, draft);
    textLength = 0;
  }

  // ---- classes, sites, seasons

  public int addClass(int window, int shortWindow, int quota)
      throws IllegalArgumentException, IllegalStateException {
    checkRange(window, 1, MAX_WINDOW);
    checkRange(shortWindow, 0, window);
    checkRange(quota, 0, MAX_QUOTA);
    if (camp.classes.count >= MAX_CLASSES) {
      throw new IllegalStateException("there are 4 classes");
    }
    return camp.classes.add(window, shortWindow, quota);
  }

  public int addSite(int siteClass) throws IndexOutOfBoundsException, IllegalStateException {
    checkClass(siteClass);
    if (camp.sites.count >= MAX_SITES) {
      throw new IllegalStateException("there are 16 sites");
    }
    return camp.sites.add(siteClass);
  }

  public int addSeason(int siteClass, int first, int last, int minimum, int price)
      throws IndexOutOfBoundsException, IllegalArgumentException, IllegalStateException {
    checkClass(siteClass);
    checkRange(first, 0, LAST_DAY);
    checkRange(last, first, LAST_DAY);
    checkRange(minimum, 1, MAX_MINIMUM);
    checkRange(price, 0, MAX_PRICE);
    if (camp.seasons.count >= MAX_SEASONS) {
      throw new IllegalStateException("there are 12 seasons");
    }
    return camp.seasons.add(siteClass, first, last, minimum, price);
  }

  public int classCount() {
    return camp.classes.count;
  }

  public int siteCount() {
    return camp.sites.count;
  }

  public int classOf(int site) throws IndexOutOfBoundsException {
    checkSite(site);
    return camp.sites.siteClass[site];
  }

  public int minimum(int siteClass, int day)
      throws IndexOutOfBoundsException, IllegalArgumentException {
    checkClass(siteClass);
    checkRange(day, 0, LAST_DAY);
    return camp.seasons.minimumOn(siteClass, day);
  }

  public int price(int siteClass, int day)
      throws IndexOutOfBoundsException, IllegalArgumentException {
    checkClass(siteClass);
    checkRange(day, 0, LAST_DAY);
    return camp.seasons.priceOn(siteClass, day);
  }

  // ---- availability

  public int capacity(int siteClass, int night) throws IndexOutOfBoundsException {
    checkClass(siteClass);
    return camp.capacityOn(siteClass, night);
  }

  public int released(int siteClass, int night) throws IndexOutOfBoundsException {
    checkClass(siteClass);
    return camp.releasedOn(siteClass, night);
  }

  public int taken(int siteClass, int night) throws IndexOutOfBoundsException {
    checkClass(siteClass);
    return camp.bookings.takenOn(siteClass, night);
  }

  public int available(int siteClass, int night) throws IndexOutOfBoundsException {
    checkClass(siteClass);
    int free = camp.releasedOn(siteClass, night) - camp.bookings.takenOn(siteClass, night);
    return Math.max(free, 0);
  }

  public int obstacle(int siteClass, int arrival, int nights)
      throws IndexOutOfBoundsException, IllegalArgumentException {
    checkClass(siteClass);
    checkRange(nights, 1, MAX_NIGHTS);
    judge.turnTo(siteClass);
    return judge.obstacleToStay(arrival, nights);
  }

  public int longestStay(int siteClass, int arrival) throws IndexOutOfBoundsException {
    checkClass(siteClass);
    judge.turnTo(siteClass);
    for (int nights = MAX_NIGHTS; nights >= 1; nights--) {
      if (judge.obstacleToStay(arrival, nights) == NO_OBSTACLE) {
        return nights;
      }
    }
    return 0;
  }

  public int cheapestArrival(int siteClass, int nights, int first, int last)
      throws IndexOutOfBoundsException, IllegalArgumentException {
    checkClass(siteClass);
    checkRange(nights, 1, MAX_NIGHTS);
    checkRange(first, 0, LAST_DAY);
    checkRange(last, first, LAST_DAY);
    judge.turnTo(siteClass);
    int best = NONE;
    int least = 0;
    for (int day = first; day <= last; day++) {
      if (judge.obstacleToStay(day, nights) != NO_OBSTACLE) {
        continue;
      }
      int sum = camp.seasons.priceOfNights(siteClass, day, day + nights);
      if (best == NONE || sum < least) {
        best = day;
        least = sum;
      }
    }
    return best;
  }

  public int nextGap(int siteClass, int from)
      throws IndexOutOfBoundsException, IllegalArgumentException {
    checkClass(siteClass);
    checkRange(from, 0, LAST_DAY);
    judge.turnTo(siteClass);
    for (int night = from; night <= LAST_NIGHT; night++) {
      if (judge.isFree(night) && !judge.isFree(night - 1)) {
        return night;
      }
    }
    return NONE;
  }

  // ---- bookings

  public int book(int siteClass, int arrival, int nights)
      throws IndexOutOfBoundsException, IllegalArgumentException, IllegalStateException {
    checkClass(siteClass);
    checkRange(nights, 1, MAX_NIGHTS);
    judge.turnTo(siteClass);
    if (camp.bookings.isFull() || judge.obstacleToStay(arrival, nights) != NO_OBSTACLE) {
      throw new IllegalStateException("an obstacle, or 60 bookings");
    }
    return camp.addBooking(siteClass, arrival, nights);
  }

  public int bookingCount() {
    return camp.bookings.count;
  }

  public int bookingState(int booking) throws IndexOutOfBoundsException {
    checkBooking(booking);
    return camp.bookings.state[booking];
  }

  public int bookingClass(int booking) throws IndexOutOfBoundsException {
    checkBooking(booking);
    return camp.bookings.siteClass[booking];
  }

  public int arrival(int booking) throws IndexOutOfBoundsException {
    checkBooking(booking);
    return camp.bookings.arrival[booking];
  }

  public int departure(int booking) throws IndexOutOfBoundsException {
    checkBooking(booking);
    return camp.bookings.departure[booking];
  }

  public int cost(int booking) throws IndexOutOfBoundsException {
    checkBooking(booking);
    return camp.bookings.cost[booking];
  }

  public int siteOf(int booking) throws IndexOutOfBoundsException {
    checkBooking(booking);
    return camp.bookings.site[booking];
  }

  public int cancel(int booking) throws IndexOutOfBoundsException, IllegalStateException {
    checkBooking(booking);
    checkState(camp.bookings.state[booking] == Bookings.BOOKED);
    int refund = camp.refundOfCancelling(booking);
    camp.bookings.cost[booking] -= refund;
    camp.bookings.state[booking] = Bookings.CANCELLED;
    return refund;
  }

  public int vacantSite(int siteClass) throws IndexOutOfBoundsException {
    checkClass(siteClass);
    return camp.lowestVacantSite(siteClass);
  }

  public int checkIn(int booking, int site)
      throws IndexOutOfBoundsException, IllegalArgumentException, IllegalStateException {
    checkBooking(booking);
    int siteClass = camp.bookings.siteClass[booking];
    if (site != NONE) {
      checkSite(site);
      checkSameClass(site, siteClass);
    }
    checkState(camp.bookings.state[booking] == Bookings.BOOKED);
    checkState(camp.bookings.arrival[booking] == camp.today);
    int given = site == NONE ? camp.lowestVacantSite(siteClass) : site;
    checkState(given != NONE && camp.isVacant(given));
    camp.bookings.state[booking] = Bookings.STAYING;
    camp.bookings.site[booking] = given;
    return given;
  }

  public int move(int booking, int site)
      throws IndexOutOfBoundsException, IllegalArgumentException, IllegalStateException {
    checkBooking(booking);
    checkSite(site);
    checkSameClass(site, camp.bookings.siteClass[booking]);
    checkState(camp.bookings.state[booking] == Bookings.STAYING);
    checkState(camp.isVacant(site));
    int previous = camp.bookings.site[booking];
    camp.bookings.site[booking] = site;
    return previous;
  }

  public int departEarly(int booking) throws IndexOutOfBoundsException, IllegalStateException {
    checkBooking(booking);
    checkState(camp.bookings.state[booking] == Bookings.STAYING);
    int refund = camp.refundOfDeparting(booking);
    camp.bookings.cost[booking] -= refund;
    camp.bookings.departure[booking] = Math.max(camp.today, camp.bookings.arrival[booking] + 1);
    camp.bookings.state[booking] = Bookings.DONE;
    return refund;
  }

  public int extend(int booking, int nights)
      throws IndexOutOfBoundsException, IllegalArgumentException, IllegalStateException {
    checkBooking(booking);
    checkRange(nights, 1, MAX_NIGHTS);
    checkState(camp.bookings.isActive(booking));
    int siteClass = camp.bookings.siteClass[booking];
    int from = camp.bookings.departure[booking];
    judge.turnTo(siteClass);
    checkState(judge.obstacleToNights(from, nights) == NO_OBSTACLE);
    int sum = camp.seasons.priceOfNights(siteClass, from, from + nights);
    camp.bookings.departure[booking] = from + nights;
    camp.bookings.cost[booking] += sum;
    return sum;
  }

  // ---- days and closings

  public int endDays(int days) throws IllegalArgumentException, IllegalStateException {
    checkRange(days, 1, MAX_DAYS_ENDED);
    if (camp.today + days > LAST_DAY) {
      throw new IllegalStateException("there is no day after 999");
    }
    for (int i = 0; i < days; i++) {
      camp.endToday();
    }
    return camp.today;
  }

  public int today() {
    return camp.today;
  }

  public void close(int site, int until)
      throws IndexOutOfBoundsException, IllegalArgumentException, IllegalStateException {
    checkSite(site);
    checkRange(until, camp.today + 1, LAST_DAY);
    checkState(camp.isVacant(site));
    checkState(camp.canSpare(camp.sites.siteClass[site], until));
    camp.sites.closedUntil[site] = until;
  }

  public int open(int site) throws IndexOutOfBoundsException, IllegalStateException {
    checkSite(site);
    checkState(camp.sites.isClosed(site, camp.today));
    int until = camp.sites.closedUntil[site];
    camp.sites.closedUntil[site] = 0;
    return until;
  }

  // ---- requests

  public int request(int siteClass, int arrival, int nights)
      throws IndexOutOfBoundsException, IllegalArgumentException, IllegalStateException {
    checkClass(siteClass);
    checkRange(arrival, camp.today, LAST_NIGHT);
    checkRange(nights, 1, MAX_NIGHTS);
    if (camp.requests.count >= MAX_REQUESTS) {
      throw new IllegalStateException("there are 20 requests");
    }
    return camp.requests.add(siteClass, arrival, nights);
  }

  public int requestState(int request) throws IndexOutOfBoundsException {
    checkRequest(request);
    return camp.requests.state[request];
  }

  public int bookingOf(int request) throws IndexOutOfBoundsException {
    checkRequest(request);
    return camp.requests.booking[request];
  }

  public void withdraw(int request) throws IndexOutOfBoundsException, IllegalStateException {
    checkRequest(request);
    checkState(camp.requests.state[request] == Requests.WAITING);
    camp.requests.state[request] = Requests.WITHDRAWN;
  }

  public int fill(int siteClass) throws IndexOutOfBoundsException {
    checkClass(siteClass);
    int filled = 0;
    while (filled < MAX_REQUESTS && !camp.bookings.isFull()) {
      int best = bestRequest(siteClass);
      if (best == NONE) {
        return filled;
      }
      camp.bookRequest(best);
      filled++;
    }
    return filled;
  }

  // ---- plans and figures

  public int planSite(int booking, int policy)
      throws IndexOutOfBoundsException, IllegalArgumentException, IllegalStateException {
    checkBooking(booking);
    checkRange(policy, 0, 1);
    checkState(camp.bookings.isActive(booking));
    plan.make(camp.bookings.siteClass[booking], policy);
    return plan.site[booking];
  }

  public int gapNights(int siteClass, int policy)
      throws IndexOutOfBoundsException, IllegalArgumentException {
    checkClass(siteClass);
    checkRange(policy, 0, 1);
    plan.make(siteClass, policy);
    return plan.nightsInGaps;
  }

  public int orphanNights(int siteClass, int policy)
      throws IndexOutOfBoundsException, IllegalArgumentException {
    checkClass(siteClass);
    checkRange(policy, 0, 1);
    plan.make(siteClass, policy);
    return plan.orphans;
  }

  public int occupancyNumerator(int siteClass, int first, int last)
      throws IndexOutOfBoundsException, IllegalArgumentException {
    checkClass(siteClass);
    checkNights(first, last);
    int taken = camp.takenInAll(siteClass, first, last);
    int divisor = commonDivisor(taken, camp.capacityInAll(siteClass, first, last));
    return taken == 0 || divisor == 0 ? 0 : taken / divisor;
  }

  public int occupancyDenominator(int siteClass, int first, int last)
      throws IndexOutOfBoundsException, IllegalArgumentException {
    checkClass(siteClass);
    checkNights(first, last);
    int taken = camp.takenInAll(siteClass, first, last);
    int capacity = camp.capacityInAll(siteClass, first, last);
    int divisor = commonDivisor(taken, capacity);
    return taken == 0 || divisor == 0 ? 1 : capacity / divisor;
  }

  public int expected(int siteClass, int day, boolean departing)
      throws IndexOutOfBoundsException, IllegalArgumentException {
    if (siteClass != NONE) {
      checkClass(siteClass);
    }
    checkRange(day, 0, LAST_DAY);
    int count = 0;
    for (int b = 0; b < camp.bookings.count; b++) {
      boolean counts = departing ? camp.bookings.isToDepart(b, day) : camp.bookings.isToArrive(b, day);
      if (counts && (siteClass == NONE || camp.bookings.siteClass[b] == siteClass)) {
        count++;
      }
    }
    return count;
  }

  public int dearestBooking(int siteClass) throws IndexOutOfBoundsException {
    checkClass(siteClass);
    int best = NONE;
    for (int b = 0; b < camp.bookings.count; b++) {
      if (!camp.bookings.isActive(b) || camp.bookings.siteClass[b] != siteClass) {
        continue;
      }
      if (best == NONE || camp.bookings.isDearer(b, best)) {
        best = b;
      }
    }
    return best;
  }

  public int busiestNight(int siteClass, int first, int last)
      throws IndexOutOfBoundsException, IllegalArgumentException {
    checkClass(siteClass);
    checkNights(first, last);
    int best = first;
    int most = camp.bookings.takenOn(siteClass, first);
    for (int night = first + 1; night <= last; night++) {
      int count = camp.bookings.takenOn(siteClass, night);
      if (count > most) {
        best = night;
        most = count;
      }
    }
    return best;
  }

  public int revenue() {
    int sum = 0;
    for (int b = 0; b < camp.bookings.count; b++) {
      sum += camp.bookings.cost[b];
    }
    return sum;
  }

  // ---- setup texts

  public int appendText(int fourBytes) throws IllegalStateException {
    if (textLength > MAX_TEXT - 4) {
      throw new IllegalStateException("the text would be longer than 500 bytes");
    }
    for (int shift = 24; shift >= 0; shift -= 8) {
      text[textLength] = (byte) (fourBytes >> shift);
      textLength++;
    }
    return textLength;
  }

  public int truncateText(int length) throws IllegalArgumentException {
    checkRange(length, 0, textLength);
    textLength = length;
    return length;
  }

  public int load() {
    int statements = reader.read(textLength);
    textLength = 0;
    if (statements != NONE) {
      camp.copyFrom(draft);
    }
    return statements;
  }

  public int errorCode() {
    return reader.code;
  }

  public int errorPosition() {
    return reader.position;
  }

  // ---- saved states

  public void save(int slot) throws IllegalArgumentException {
    checkRange(slot, 0, SLOTS - 1);
    Camp kept = saved[slot];
    if (kept == null) {
      kept = new Camp();
      saved[slot] = kept;
    }
    kept.copyFrom(camp);
  }

  public void restore(int slot) throws IllegalArgumentException, IllegalStateException {
    checkRange(slot, 0, SLOTS - 1);
    Camp kept = saved[slot];
    if (kept == null) {
      throw new IllegalStateException("nothing is saved there");
    }
    camp.copyFrom(kept);
  }

  // ---- checks and helpers

  private void checkClass(int siteClass) {
    if (siteClass < 0 || siteClass >= camp.classes.count) {
      throw new IndexOutOfBoundsException("no such class");
    }
  }

  private void checkSite(int site) {
    if (site < 0 || site >= camp.sites.count) {
      throw new IndexOutOfBoundsException("no such site");
    }
  }

  private void checkBooking(int booking) {
    if (booking < 0 || booking >= camp.bookings.count) {
      throw new IndexOutOfBoundsException("no such booking");
    }
  }

  private void checkRequest(int request) {
    if (request < 0 || request >= camp.requests.count) {
      throw new IndexOutOfBoundsException("no such request");
    }
  }

  private void checkSameClass(int site, int siteClass) {
    if (camp.sites.siteClass[site] != siteClass) {
      throw new IllegalArgumentException("the site has another class");
    }
  }

  private void checkNights(int first, int last) {
    checkRange(first, camp.today, LAST_NIGHT);
    checkRange(last, first, LAST_NIGHT);
  }

  private static void checkRange(int value, int low, int high) {
    if (value < low || value > high) {
      throw new IllegalArgumentException("out of range");
    }
  }

  private static void checkState(boolean allowed) {
    if (!allowed) {
      throw new IllegalStateException("not possible in this state");
    }
  }

  private int bestRequest(int siteClass) {
    judge.turnTo(siteClass);
    Requests requests = camp.requests;
    int best = NONE;
    for (int r = 0; r < requests.count; r++) {
      if (requests.state[r] != Requests.WAITING || requests.siteClass[r] != siteClass) {
        continue;
      }
      if (best != NONE && !requests.isBetter(r, best)) {
        continue;
      }
      if (judge.obstacleToStay(requests.arrival[r], requests.nights[r]) == NO_OBSTACLE) {
        best = r;
      }
    }
    return best;
  }

  private static int commonDivisor(int a, int b) {
    int divisor = a;
    int rest = b;
    // Euclid's steps halve the numbers at least every second time, so 64 are enough for all ints.
    for (int step = 0; step < 64 && rest != 0; step++) {
      int next = divisor % rest;
      divisor = rest;
      rest = next;
    }
    return divisor;
  }

  private static void copyRow(int[] from, int[] to) {
    System.arraycopy(from, 0, to, 0, Math.min(from.length, to.length));
  }

  /** The classes of sites. */
  private static final class Classes {
    private final int[] window = new int[MAX_CLASSES];
    private final int[] shortWindow = new int[MAX_CLASSES];
    private final int[] quota = new int[MAX_CLASSES];
    private int count = 0;

    private int add(int newWindow, int newShortWindow, int newQuota) {
      if (count >= MAX_CLASSES) {
        return NONE;
      }
      window[count] = newWindow;
      shortWindow[count] = newShortWindow;
      quota[count] = newQuota;
      return count++;
    }

    /** How many sites a class gives out at most, a number of days ahead, whatever its capacity. */
    private int limitAhead(int siteClass, int days) {
      if (siteClass < 0 || siteClass >= count || days > window[siteClass]) {
        return 0;
      }
      return days <= shortWindow[siteClass] ? MAX_SITES : quota[siteClass];
    }

    private int windowOf(int siteClass) {
      return siteClass < 0 || siteClass >= count ? 0 : window[siteClass];
    }

    private void copyFrom(Classes other) {
      copyRow(other.window, window);
      copyRow(other.shortWindow, shortWindow);
      copyRow(other.quota, quota);
      count = other.count;
    }
  }

  /** The sites; one is closed on the nights before its closedUntil. */
  private static final class Sites {
    private final int[] siteClass = new int[MAX_SITES];
    private final int[] closedUntil = new int[MAX_SITES];
    private int count = 0;

    private int add(int newClass) {
      if (count >= MAX_SITES) {
        return NONE;
      }
      siteClass[count] = newClass;
      closedUntil[count] = 0;
      return count++;
    }

    private boolean isClosed(int site, int night) {
      return closedUntil[site] > night;
    }

    private int countOpen(int wantedClass, int night) {
      int open = 0;
      for (int s = 0; s < count; s++) {
        if (siteClass[s] == wantedClass && closedUntil[s] <= night) {
          open++;
        }
      }
      return open;
    }

    private void copyFrom(Sites other) {
      copyRow(other.siteClass, siteClass);
      copyRow(other.closedUntil, closedUntil);
      count = other.count;
    }
  }

  /** The seasons, in the order in which they were added. */
  private static final class Seasons {
    private final int[] siteClass = new int[MAX_SEASONS];
    private final int[] first = new int[MAX_SEASONS];
    private final int[] last = new int[MAX_SEASONS];
    private final int[] least = new int[MAX_SEASONS];
    private final int[] charge = new int[MAX_SEASONS];
    private int count = 0;

    private int add(int newClass, int firstDay, int lastDay, int leastNights, int nightCharge) {
      if (count >= MAX_SEASONS) {
        return NONE;
      }
      siteClass[count] = newClass;
      first[count] = firstDay;
      last[count] = lastDay;
      least[count] = leastNights;
      charge[count] = nightCharge;
      return count++;
    }

    private int latestWith(int wantedClass, int day) {
      for (int s = count - 1; s >= 0; s--) {
        if (siteClass[s] == wantedClass && first[s] <= day && day <= last[s]) {
          return s;
        }
      }
      return NONE;
    }

    private int minimumOn(int wantedClass, int day) {
      int season = latestWith(wantedClass, day);
      return season == NONE ? USUAL_MINIMUM : least[season];
    }

    private int priceOn(int wantedClass, int day) {
      int season = latestWith(wantedClass, day);
      return season == NONE ? USUAL_PRICE : charge[season];
    }

    private int priceOfNights(int wantedClass, int from, int end) {
      int sum = 0;
      for (int night = from; night < end; night++) {
        sum += priceOn(wantedClass, night);
      }
      return sum;
    }

    private void copyFrom(Seasons other) {
      copyRow(other.siteClass, siteClass);
      copyRow(other.first, first);
      copyRow(other.last, last);
      copyRow(other.least, least);
      copyRow(other.charge, charge);
      count = other.count;
    }
  }

  /** The bookings in all states; the site is NONE until the guests have arrived. */
  private static final class Bookings {
    private static final int BOOKED = 0;
    private static final int STAYING = 1;
    private static final int DONE = 2;
    private static final int CANCELLED = 3;
    private static final int ABSENT = 4;

    private final int[] siteClass = new int[MAX_BOOKINGS];
    private final int[] arrival = new int[MAX_BOOKINGS];
    private final int[] departure = new int[MAX_BOOKINGS];
    private final int[] cost = new int[MAX_BOOKINGS];
    private final int[] state = new int[MAX_BOOKINGS];
    private final int[] site = new int[MAX_BOOKINGS];
    private int count = 0;

    private boolean isFull() {
      return count >= MAX_BOOKINGS;
    }

    private int add(int newClass, int arrivalDay, int departureDay, int price) {
      if (count >= MAX_BOOKINGS) {
        return NONE;
      }
      siteClass[count] = newClass;
      arrival[count] = arrivalDay;
      departure[count] = departureDay;
      cost[count] = price;
      state[count] = BOOKED;
      site[count] = NONE;
      return count++;
    }

    private boolean isActive(int b) {
      return state[b] == BOOKED || state[b] == STAYING;
    }

    private boolean isToArrive(int b, int day) {
      return state[b] == BOOKED && arrival[b] == day;
    }

    private boolean isToDepart(int b, int day) {
      return isActive(b) && departure[b] == day;
    }

    private int takenOn(int wantedClass, int night) {
      int taken = 0;
      for (int b = 0; b < count; b++) {
        if (arrival[b] <= night && night < departure[b] && siteClass[b] == wantedClass && isActive(b)) {
          taken++;
        }
      }
      return taken;
    }

    private boolean isSomebodyAt(int wantedSite) {
      for (int b = 0; b < count; b++) {
        if (state[b] == STAYING && site[b] == wantedSite) {
          return true;
        }
      }
      return false;
    }

    /** Compares costs per night without dividing, so that nothing is rounded. */
    private boolean isDearer(int b, int other) {
      long nights = departure[b] - arrival[b];
      long otherNights = departure[other] - arrival[other];
      return cost[b] * otherNights > cost[other] * nights;
    }

    private void endNight(int endedDay) {
      for (int b = 0; b < count; b++) {
        if (state[b] == BOOKED && arrival[b] <= endedDay) {
          state[b] = ABSENT;
        } else if (state[b] == STAYING && departure[b] <= endedDay + 1) {
          state[b] = DONE;
        }
      }
    }

    private void copyFrom(Bookings other) {
      copyRow(other.siteClass, siteClass);
      copyRow(other.arrival, arrival);
      copyRow(other.departure, departure);
      copyRow(other.cost, cost);
      copyRow(other.state, state);
      copyRow(other.site, site);
      count = other.count;
    }
  }

  /** The requests in all states; the booking is NONE unless the request is BOOKED. */
  private static final class Requests {
    private static final int WAITING = 0;
    private static final int BOOKED = 1;
    private static final int WITHDRAWN = 2;
    private static final int EXPIRED = 3;

    private final int[] siteClass = new int[MAX_REQUESTS];
    private final int[] arrival = new int[MAX_REQUESTS];
    private final int[] nights = new int[MAX_REQUESTS];
    private final int[] state = new int[MAX_REQUESTS];
    private final int[] booking = new int[MAX_REQUESTS];
    private int count = 0;

    private int add(int newClass, int arrivalDay, int nightCount) {
      if (count >= MAX_REQUESTS) {
        return NONE;
      }
      siteClass[count] = newClass;
      arrival[count] = arrivalDay;
      nights[count] = nightCount;
      state[count] = WAITING;
      booking[count] = NONE;
      return count++;
    }

    /** Whether request r, which has the greater number, is to be booked before the other one. */
    private boolean isBetter(int r, int other) {
      if (nights[r] != nights[other]) {
        return nights[r] > nights[other];
      }
      return arrival[r] < arrival[other];
    }

    private void expireBefore(int day) {
      for (int r = 0; r < count; r++) {
        if (state[r] == WAITING && arrival[r] < day) {
          state[r] = EXPIRED;
        }
      }
    }

    private void copyFrom(Requests other) {
      copyRow(other.siteClass, siteClass);
      copyRow(other.arrival, arrival);
      copyRow(other.nights, nights);
      copyRow(other.state, state);
      copyRow(other.booking, booking);
      count = other.count;
    }
  }

  /** All that a saved state holds. */
  private static final class Camp {
    private final Classes classes = new Classes();
    private final Sites sites = new Sites();
    private final Seasons seasons = new Seasons();
    private final Bookings bookings = new Bookings();
    private final Requests requests = new Requests();
    private int today = 0;

    private void clear() {
      classes.count = 0;
      sites.count = 0;
      seasons.count = 0;
      bookings.count = 0;
      requests.count = 0;
      today = 0;
    }

    private void copyFrom(Camp other) {
      classes.copyFrom(other.classes);
      sites.copyFrom(other.sites);
      seasons.copyFrom(other.seasons);
      bookings.copyFrom(other.bookings);
      requests.copyFrom(other.requests);
      today = other.today;
    }

    private int capacityOn(int siteClass, int night) {
      return night < today || night > LAST_NIGHT ? 0 : sites.countOpen(siteClass, night);
    }

    private int releasedOn(int siteClass, int night) {
      // Asked first, since the difference to the present day could overflow for other nights.
      if (night < today || night > LAST_NIGHT) {
        return 0;
      }
      return Math.min(classes.limitAhead(siteClass, night - today), sites.countOpen(siteClass, night));
    }

    private int takenInAll(int siteClass, int first, int last) {
      int sum = 0;
      for (int night = first; night <= last; night++) {
        sum += bookings.takenOn(siteClass, night);
      }
      return sum;
    }

    private int capacityInAll(int siteClass, int first, int last) {
      int sum = 0;
      for (int night = first; night <= last; night++) {
        sum += capacityOn(siteClass, night);
      }
      return sum;
    }

    /** Whether a class could do with one site less on the nights from tonight to a day. */
    private boolean canSpare(int siteClass, int until) {
      for (int night = today; night < until; night++) {
        if (capacityOn(siteClass, night) <= bookings.takenOn(siteClass, night)) {
          return false;
        }
      }
      return true;
    }

    private boolean isVacant(int site) {
      return !sites.isClosed(site, today) && !bookings.isSomebodyAt(site);
    }

    private int lowestVacantSite(int siteClass) {
      for (int s = 0; s < sites.count; s++) {
        if (sites.siteClass[s] == siteClass && isVacant(s)) {
          return s;
        }
      }
      return NONE;
    }

    private int addBooking(int siteClass, int arrival, int nights) {
      int departure = arrival + nights;
      int cost = seasons.priceOfNights(siteClass, arrival, departure);
      return bookings.add(siteClass, arrival, departure, cost);
    }

    private void bookRequest(int r) {
      int booking = addBooking(requests.siteClass[r], requests.arrival[r], requests.nights[r]);
      requests.booking[r] = booking;
      requests.state[r] = Requests.BOOKED;
    }

    private int refundOfCancelling(int b) {
      int daysAhead = bookings.arrival[b] - today;
      if (daysAhead >= FULL_REFUND_DAYS) {
        return bookings.cost[b];
      }
      return daysAhead >= HALF_REFUND_DAYS ? bookings.cost[b] / 2 : 0;
    }

    private int refundOfDeparting(int b) {
      int sum = seasons.priceOfNights(bookings.siteClass[b], today + 1, bookings.departure[b]);
      return Math.min(sum / 2, bookings.cost[b]);
    }

    /** Closings need no step here: they are over by the day that they bear. */
    private void endToday() {
      bookings.endNight(today);
      today++;
      requests.expireBefore(today);
    }
  }

  /** Finds the obstacles of stays of one class, and counts each night only once for that. */
  private static final class StayJudge {
    private static final int UNKNOWN = 0;
    private static final int FREE = 1;
    private static final int FULL = 2;

    private final Camp camp;
    private final int[] known = new int[LAST_NIGHT + 1];
    private int siteClass = 0;

    private StayJudge(Camp judged) {
      camp = judged;
    }

    /** To be called before the first question after each change of the camp. */
    private void turnTo(int wantedClass) {
      siteClass = wantedClass;
      Arrays.fill(known, UNKNOWN);
    }

    private boolean isFree(int night) {
      if (night < 0 || night > LAST_NIGHT) {
        return false;
      }
      if (known[night] == UNKNOWN) {
        int released = camp.releasedOn(siteClass, night);
        boolean free = released > 0 && released > camp.bookings.takenOn(siteClass, night);
        known[night] = free ? FREE : FULL;
      }
      return known[night] == FREE;
    }

    private boolean leavesWindow(int first, int nights) {
      if (first < camp.today || first > LAST_NIGHT) {
        return true;
      }
      int last = first + nights - 1;
      return last > LAST_NIGHT || last - camp.today > camp.classes.windowOf(siteClass);
    }

    private int obstacleToNights(int first, int nights) {
      if (leavesWindow(first, nights)) {
        return WINDOW;
      }
      for (int night = first; night < first + nights; night++) {
        if (!isFree(night)) {
          return SOLD_OUT;
        }
      }
      return NO_OBSTACLE;
    }

    private int obstacleToStay(int arrival, int nights) {
      int obstacle = obstacleToNights(arrival, nights);
      if (obstacle != NO_OBSTACLE || nights >= camp.seasons.minimumOn(siteClass, arrival)) {
        return obstacle;
      }
      boolean fillsGap = !isFree(arrival - 1) && !isFree(arrival + nights);
      return fillsGap ? NO_OBSTACLE : TOO_SHORT;
    }
  }

  /** Gives the active bookings of a class their sites, and counts the nights between them. */
  private static final class Plan {
    private static final int LATEST_DEPARTURE = 1;

    private final Camp camp;
    private final int[] site = new int[MAX_BOOKINGS];
    private final int[] busyUntil = new int[MAX_SITES];
    private int nightsInGaps = 0;
    private int orphans = 0;

    private Plan(Camp planned) {
      camp = planned;
    }

    private void make(int siteClass, int policy) {
      nightsInGaps = 0;
      orphans = 0;
      Arrays.fill(site, NONE);
      Arrays.fill(busyUntil, NONE);
      placeStaying(siteClass);
      for (int round = 0; round < camp.bookings.count; round++) {
        int next = nextToPlace(siteClass);
        int chosen = next == NONE ? NONE : chooseSite(siteClass, camp.bookings.arrival[next], policy);
        if (chosen == NONE) {
          return;
        }
        countGap(siteClass, busyUntil[chosen], camp.bookings.arrival[next]);
        site[next] = chosen;
        busyUntil[chosen] = camp.bookings.departure[next];
      }
    }

    private void placeStaying(int siteClass) {
      Bookings bookings = camp.bookings;
      for (int b = 0; b < bookings.count; b++) {
        int own = bookings.site[b];
        if (bookings.state[b] != Bookings.STAYING || bookings.siteClass[b] != siteClass) {
          continue;
        }
        if (own >= 0 && own < MAX_SITES) {
          site[b] = own;
          busyUntil[own] = bookings.departure[b];
        }
      }
    }

    private int nextToPlace(int siteClass) {
      Bookings bookings = camp.bookings;
      int next = NONE;
      for (int b = 0; b < bookings.count; b++) {
        if (bookings.state[b] != Bookings.BOOKED || bookings.siteClass[b] != siteClass || site[b] != NONE) {
          continue;
        }
        if (next == NONE || bookings.arrival[b] < bookings.arrival[next]) {
          next = b;
        }
      }
      return next;
    }

    private int chooseSite(int siteClass, int arrival, int policy) {
      Sites sites = camp.sites;
      int best = NONE;
      for (int s = 0; s < sites.count; s++) {
        if (sites.siteClass[s] != siteClass || sites.isClosed(s, arrival) || busyUntil[s] > arrival) {
          continue;
        }
        if (best == NONE || (policy == LATEST_DEPARTURE && busyUntil[s] > busyUntil[best])) {
          best = s;
        }
      }
      return best;
    }

    private void countGap(int siteClass, int from, int end) {
      if (from == NONE) {
        return;
      }
      int nights = end - from;
      nightsInGaps += nights;
      if (nights < camp.seasons.minimumOn(siteClass, from)) {
        orphans += nights;
      }
    }
  }

  /** Reads a setup text into a camp, token by token, up to the first wrong one. */
  private static final class SetupReader {
    private static final int END = 0;
    private static final int WORD = 1;
    private static final int NUMBER = 2;
    private static final int SEMICOLON = 3;
    private static final int STRANGE = 4;

    private static final int NOT_ALLOWED = 1;
    private static final int OUT_OF_RANGE = 2;
    private static final int TOO_MANY = 3;

    /** Greater than every number that a setup may hold; longer numbers count as this one. */
    private static final int HUGE = 100000;

    private final byte[] text;
    private final Camp camp;
    private int length = 0;
    private int kind = END;
    private int start = 0;
    private int end = 0;
    private int value = 0;
    private int code = 0;
    private int position = NONE;

    private SetupReader(byte[] source, Camp target) {
      text = source;
      camp = target;
    }

    /** Answers the number of statements, or NONE if there is an error. */
    private int read(int textLength) {
      length = Math.min(textLength, text.length);
      end = 0;
      code = 0;
      position = NONE;
      camp.clear();
      step();
      int statements = 0;
      while (kind != END && statements < MAX_TEXT) {
        if (!readStatement()) {
          return NONE;
        }
        statements++;
      }
      return statements;
    }

    private boolean readStatement() {
      if (isWord("class")) {
        return readClass() && readSemicolon();
      }
      if (isWord("site")) {
        return readSites() && readSemicolon();
      }
      if (isWord("season")) {
        return readSeason() && readSemicolon();
      }
      if (isWord("day")) {
        return readDay() && readSemicolon();
      }
      return fail(NOT_ALLOWED);
    }

    private boolean readClass() {
      if (camp.classes.count >= MAX_CLASSES) {
        return fail(TOO_MANY);
      }
      step();
      int window = readNumber(1, MAX_WINDOW);
      int shortWindow = window == NONE ? NONE : readNumber(0, window);
      int quota = shortWindow == NONE ? NONE : readNumber(0, MAX_QUOTA);
      return quota != NONE && camp.classes.add(window, shortWindow, quota) != NONE;
    }

    private boolean readSites() {
      step();
      for (int i = 0; i <= MAX_SITES && (i == 0 || kind == NUMBER); i++) {
        int at = start;
        int siteClass = readNumber(0, camp.classes.count - 1);
        if (siteClass == NONE) {
          return false;
        }
        if (camp.sites.add(siteClass) == NONE) {
          return failAt(at, TOO_MANY);
        }
      }
      return true;
    }

    private boolean readSeason() {
      if (camp.seasons.count >= MAX_SEASONS) {
        return fail(TOO_MANY);
      }
      step();
      int siteClass = readNumber(0, camp.classes.count - 1);
      int first = siteClass == NONE ? NONE : readNumber(0, LAST_DAY);
      int last = first == NONE ? NONE : readNumber(first, LAST_DAY);
      int least = last == NONE ? NONE : readNumber(1, MAX_MINIMUM);
      int charge = least == NONE ? NONE : readNumber(0, MAX_PRICE);
      return charge != NONE && camp.seasons.add(siteClass, first, last, least, charge) != NONE;
    }

    private boolean readDay() {
      step();
      int day = readNumber(0, LAST_DAY);
      if (day == NONE) {
        return false;
      }
      camp.today = day;
      return true;
    }

    private boolean readSemicolon() {
      if (kind != SEMICOLON) {
        return fail(NOT_ALLOWED);
      }
      step();
      return true;
    }

    /** Answers the number, or NONE after an error. */
    private int readNumber(int low, int high) {
      if (kind != NUMBER) {
        fail(NOT_ALLOWED);
        return NONE;
      }
      if (value < low || value > high) {
        fail(OUT_OF_RANGE);
        return NONE;
      }
      int number = value;
      step();
      return number;
    }

    private boolean fail(int errorCode) {
      return failAt(start, errorCode);
    }

    private boolean failAt(int errorPosition, int errorCode) {
      position = errorPosition;
      code = errorCode;
      return false;
    }

    private boolean isWord(String word) {
      if (kind != WORD || end - start != word.length()) {
        return false;
      }
      for (int i = 0; i < word.length(); i++) {
        if (text[start + i] != word.charAt(i)) {
          return false;
        }
      }
      return true;
    }

    /** Goes on to the next token; at the end of the text its start is the length. */
    private void step() {
      start = end;
      while (start < length && (text[start] == ' ' || text[start] == '\n')) {
        start++;
      }
      end = start;
      if (start >= length) {
        kind = END;
      } else if (isLetter(text[start])) {
        kind = WORD;
        while (end < length && isLetter(text[end])) {
          end++;
        }
      } else if (isDigit(text[start])) {
        kind = NUMBER;
        value = 0;
        while (end < length && isDigit(text[end])) {
          value = Math.min(value * 10 + (text[end] - '0'), HUGE);
          end++;
        }
      } else {
        kind = text[start] == ';' ? SEMICOLON : STRANGE;
        end++;
      }
    }

    private static boolean isLetter(byte b) {
      return b >= 'a' && b <= 'z';
    }

    private static boolean isDigit(byte b) {
      return b >= '0' && b <= '9';
    }
  }
}
