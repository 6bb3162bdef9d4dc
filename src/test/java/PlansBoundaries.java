/** Plans, and promises 41 to 49, sentence by sentence. */
final class PlansBoundaries {
  private static final int NONE = Campground.NONE;

  private PlansBoundaries() {
  }

  @Says(at = "PLANS", words = "A plan gives every active booking of a class a site.")
  static void everyActiveBooking() {
    Campground x = Due.made("class 50 50 9; class 50 50 9; site 0 1 0;");
    x.book(0, 0, 1);
    x.book(1, 0, 2);
    x.book(0, 0, 2);
    x.checkIn(2, 2);
    x.book(0, 9, 1);
    x.cancel(3);
    for (int policy = 0; policy < 2; policy++) {
      Due.same("BOOKED", x.planSite(0, policy), 0);
      Due.same("BOOKED, the other class", x.planSite(1, policy), 1);
      Due.same("STAYING", x.planSite(2, policy), 2);
    }
    Due.thrown("CANCELLED", x, Due.STATE, () -> x.planSite(3, 0));
    x.endDays(1);
    Due.thrown("ABSENT", x, Due.STATE, () -> x.planSite(0, 0));
    x.endDays(1);
    Due.thrown("DONE", x, Due.STATE, () -> x.planSite(2, 0));
  }

  @Says(at = "PLANS", words = "STAYING bookings have their sites.")
  static void stayingBookings() {
    Campground x = Due.made("class 50 50 9; site 0 0 0;");
    x.book(0, 0, 9);
    x.checkIn(0, 2);
    for (int policy = 0; policy < 2; policy++) {
      Due.same("the last site", x.planSite(0, policy), 2);
    }
    x.move(0, 1);
    x.book(0, 0, 2);
    for (int policy = 0; policy < 2; policy++) {
      Due.same("the site to which they moved", x.planSite(0, policy), 1);
      Due.same("another site for the BOOKED ones", x.planSite(1, policy), 0);
    }
  }

  @Says(at = "PLANS", words = "The BOOKED ones are taken by ascending arrival day, of equal ones by ascending number, and "
      + "each gets a site that is free then: one that is not closed on the arrival night, at which no stay in the plan "
      + "so far departs after this arrival day.")
  static void freeSites() {
    Campground x = Due.made("class 50 50 9; site 0 0 0;");
    x.book(0, 5, 1);
    x.book(0, 3, 2);
    expect(x, "the earlier one departs on the arrival day", 0, 0, 0);
    x.extend(1, 1);
    expect(x, "the earlier one departs a day after it", 0, 1, 0);
    x.book(0, 5, 1);
    expect(x, "of equal days the lower number is the first", 0, 1, 0, 2);
    Campground closed = Due.made("class 50 50 9; site 0 0;");
    closed.book(0, 5, 3);
    closed.close(0, 5);
    expect(closed, "closed until the arrival day", 0, 0);
    closed.open(0);
    closed.close(0, 6);
    expect(closed, "closed on the arrival night", 0, 1);
    Campground staying = Due.made("class 50 50 9; site 0 0;");
    staying.book(0, 0, 4);
    staying.checkIn(0, 0);
    staying.book(0, 4, 1);
    expect(staying, "STAYING guests depart on the arrival day", 0, 0, 0);
    staying.extend(0, 1);
    expect(staying, "STAYING guests depart a day after it", 0, 0, 1);
  }

  private static void expect(Campground x, String what, int policy, int... sites) {
    for (int b = 0; b < sites.length; b++) {
      Due.same(what + ": planSite(" + b + ", " + policy + ")", x.planSite(b, policy), sites[b]);
    }
  }

  @Says(at = "PLANS", words = "With the policy 0 it is the lowest of these sites.")
  static void policyZero() {
    Campground x = Due.made("class 50 50 9; class 50 50 9; site 1 0 0 0;");
    x.book(0, 0, 1);
    x.book(0, 0, 5);
    x.book(0, 6, 1);
    expect(x, "all are free", 0, 1, 2, 1);
    x.extend(0, 6);
    expect(x, "the lowest is not", 0, 1, 2, 2);
    x.extend(1, 2);
    expect(x, "the last alone is", 0, 1, 2, 3);
  }

  @Says(at = "PLANS", words = "With the policy 1 it is the one whose latest departure day in the plan so far is latest "
      + "(sites without a stay in the plan come after all others), of equal ones the lowest.")
  static void policyOne() {
    Campground x = Due.made("class 50 50 9; site 0 0 0 0;");
    x.book(0, 0, 2);
    x.book(0, 0, 3);
    x.book(0, 4, 1);
    expect(x, "the latest departure", 1, 0, 1, 1);
    x.extend(0, 1);
    expect(x, "equal departures", 1, 0, 1, 0);
    x.extend(0, 1);
    expect(x, "a departure on the arrival day", 1, 0, 1, 0);
    x.extend(0, 1);
    expect(x, "a departure after the arrival day", 1, 0, 1, 1);
    x.extend(1, 2);
    expect(x, "sites without a stay, the lowest of them", 1, 0, 1, 2);
    Campground staying = Due.made("class 50 50 9; site 0 0 0;");
    staying.book(0, 0, 1);
    staying.checkIn(0, 2);
    staying.book(0, 30, 1);
    expect(staying, "a site with a stay long ago", 1, 2, 2);
    expect(staying, "the same with policy 0", 0, 2, 0);
    staying.endDays(1);
    Due.same("DONE guests have no stay in the plan", staying.planSite(1, 1), 0);
  }

  @Says(at = "PLANS", words = "There always is a site.")
  static void alwaysASite() {
    Campground x = Due.made("class 50 50 9; site 0 0 0;");
    x.close(0, 4);
    for (int b = 0; b < 2; b++) {
      x.book(0, 0, 4);
    }
    for (int b = 0; b < 3; b++) {
      x.book(0, 4, 2);
    }
    for (int b = 0; b < 3; b++) {
      x.book(0, 6, 1 + b);
    }
    Due.same("sold out tonight", x.available(0, 0), 0);
    Due.same("sold out later", x.available(0, 5), 0);
    for (int policy = 0; policy < 2; policy++) {
      Due.same("the first two", sitesOf(x, policy, 0, 2), 0b110);
      Due.same("the next three", sitesOf(x, policy, 2, 5), 0b111);
      Due.same("the last three", sitesOf(x, policy, 5, 8), 0b111);
    }
    x.checkIn(0, 2);
    x.checkIn(1, 1);
    for (int policy = 0; policy < 2; policy++) {
      Due.same("with guests, the first two", sitesOf(x, policy, 0, 2), 0b110);
      Due.same("with guests, the next three", sitesOf(x, policy, 2, 5), 0b111);
    }
  }

  private static int sitesOf(Campground x, int policy, int from, int end) {
    int sites = 0;
    for (int b = from; b < end; b++) {
      sites |= 1 << x.planSite(b, policy);
    }
    return sites;
  }

  @Says(at = "PLANS", words = "A gap of a plan lies between two stays that follow each other at a site: the nights from "
      + "the departure day of one to the day before the arrival day of the next one.")
  static void gaps() {
    Campground x = Due.made("class 50 50 9; class 50 50 9; site 0 1;");
    x.book(0, 5, 2);
    gapNights(x, "before a stay and behind it there is none", 0);
    x.book(0, 7, 1);
    gapNights(x, "stays without a night between them", 0);
    x.book(0, 9, 1);
    gapNights(x, "one night", 1);
    x.book(0, 20, 1);
    gapNights(x, "ten nights more", 11);
    x.book(1, 0, 1);
    x.book(1, 9, 1);
    gapNights(x, "the other class has its own", 11);
    x.cancel(2);
    gapNights(x, "a cancelled stay is none", 12);
    Campground two = Due.made("class 50 50 9; site 0 0;");
    two.book(0, 0, 2);
    two.book(0, 1, 2);
    two.book(0, 4, 1);
    two.book(0, 4, 1);
    Due.same("at both sites, policy 0", two.gapNights(0, 0), 3);
    Due.same("at both sites, policy 1", two.gapNights(0, 1), 3);
  }

  private static void gapNights(Campground x, String what, int want) {
    Due.same(what + ", policy 0", x.gapNights(0, 0), want);
    Due.same(what + ", policy 1", x.gapNights(0, 1), want);
  }

  @Says(at = "PLANS", words = "An orphan night is a night of a gap that has fewer nights than the minimum of the class on "
      + "the first day of the gap.")
  static void orphans() {
    for (int nights = 0; nights <= 5; nights++) {
      Campground x = Due.made("class 50 50 9; class 50 50 9; site 0;");
      x.book(0, 2, 3);
      x.book(0, 5 + nights, 1);
      Due.same("minimum 1, " + nights + " nights", x.orphanNights(0, 0), 0);
      x.addSeason(0, 0, 4, 14, 20);
      x.addSeason(0, 6, 99, 14, 20);
      x.addSeason(1, 0, 99, 14, 20);
      Due.same("the minimum of other days, " + nights + " nights", x.orphanNights(0, 0), 0);
      x.addSeason(0, 5, 5, 4, 20);
      Due.same("minimum 4, " + nights + " nights", x.orphanNights(0, 0), nights < 4 ? nights : 0);
      Due.same("policy 1, " + nights + " nights", x.orphanNights(0, 1), nights < 4 ? nights : 0);
    }
  }

  @Says(at = "Promise 41", words = "`booking`: an active booking")
  static void planOfActiveBooking() {
    Campground x = Due.made("class 50 50 9; site 0 0;");
    x.book(0, 0, 2);
    x.book(0, 0, 1);
    Due.same("BOOKED", x.planSite(1, 0), 1);
    x.checkIn(1, 0);
    Due.same("STAYING", x.planSite(1, 0), 0);
    x.endDays(1);
    Due.thrown("DONE", x, Due.STATE, () -> x.planSite(1, 0));
    Due.thrown("ABSENT", x, Due.STATE, () -> x.planSite(0, 0));
  }

  @Says(at = "Promise 41", words = "`policy`: 0 or 1")
  static void planPolicies() {
    Campground x = Due.made("class 50 50 9; site 0 0;");
    x.book(0, 0, 1);
    x.book(0, 0, 2);
    x.book(0, 3, 1);
    Due.same("policy 0", x.planSite(2, 0), 0);
    Due.same("policy 1", x.planSite(2, 1), 1);
    Due.thrown("policy -1", x, Due.ARGUMENT, () -> x.planSite(2, -1));
    Due.thrown("policy 2", x, Due.ARGUMENT, () -> x.planSite(2, 2));
  }

  @Says(at = "Promise 41", words = "Throws `IndexOutOfBoundsException` if there is no such booking")
  static void planOfNoBooking() {
    Edges.noSuchBooking("planSite", false, (x, b) -> x.planSite(b, 0));
    Edges.noSuchBooking("planSite", true, (x, b) -> x.planSite(b, 1));
    Campground x = Due.made("class 50 50 9; site 0;");
    Due.thrown("both wrong", x, Due.INDEX, () -> x.planSite(0, 2));
  }

  @Says(at = "Promise 41", words = "Throws `IllegalArgumentException` if policy is out of range")
  static void planOfWrongPolicy() {
    Campground x = Due.made("class 50 50 9; site 0;");
    x.book(0, 0, 1);
    x.book(0, 1, 1);
    x.cancel(1);
    for (int policy : new int[] {Edges.MIN, -1, 2, Edges.MAX}) {
      Due.thrown("policy " + policy, x, Due.ARGUMENT, () -> x.planSite(0, policy));
      Due.thrown("also if it is not active, policy " + policy, x, Due.ARGUMENT, () -> x.planSite(1, policy));
    }
  }

  @Says(at = "Promise 41", words = "Throws `IllegalStateException` if the booking is not active")
  static void planRefused() {
    Campground x = Due.made("class 50 50 9; site 0 0;");
    x.book(0, 0, 1);
    x.book(0, 0, 1);
    x.book(0, 5, 1);
    x.checkIn(0, 1);
    x.cancel(2);
    x.endDays(1);
    for (int policy = 0; policy < 2; policy++) {
      int chosen = policy;
      Due.thrown("DONE", x, Due.STATE, () -> x.planSite(0, chosen));
      Due.thrown("ABSENT", x, Due.STATE, () -> x.planSite(1, chosen));
      Due.thrown("CANCELLED", x, Due.STATE, () -> x.planSite(2, chosen));
    }
  }

  @Says(at = "Promise 42", words = "`policy`: 0 or 1")
  static void gapPolicies() {
    Campground x = twoPolicies();
    Due.same("policy 0", x.gapNights(0, 0), 2);
    Due.same("policy 1", x.gapNights(0, 1), 1);
  }

  @Says(at = "Promise 42", words = "Returns the number of nights in all gaps of the plan.")
  static void gapNumber() {
    Campground x = Due.made("class 200 200 9; class 200 200 9; site 0;");
    gapNights(x, "no booking", 0);
    Due.same("no site", x.gapNights(1, 0), 0);
    x.book(0, 0, 1);
    gapNights(x, "one booking", 0);
    x.book(0, 200, 1);
    gapNights(x, "as many as there can be", 199);
    x.checkIn(0, 0);
    gapNights(x, "behind STAYING guests", 199);
  }

  @Says(at = "Promise 42", words = "Throws `IndexOutOfBoundsException` if there is no such class")
  static void gapsOfNoClass() {
    Edges.noSuchClass("gapNights", (x, c) -> x.gapNights(c, 0));
    Campground x = Due.made("class 9 9 9;");
    Due.thrown("both wrong", x, Due.INDEX, () -> x.gapNights(1, 2));
  }

  @Says(at = "Promise 42", words = "Throws `IllegalArgumentException` if policy is out of range")
  static void gapsOfWrongPolicy() {
    Edges.range("policy", "class 9 9 9; site 0;", 0, 1, (x, policy) -> x.gapNights(0, policy));
  }

  @Says(at = "Promise 43", words = "`policy`: 0 or 1")
  static void orphanPolicies() {
    Campground x = twoPolicies();
    x.addSeason(0, 0, 9, 2, 20);
    Due.same("policy 0", x.orphanNights(0, 0), 0);
    Due.same("policy 1", x.orphanNights(0, 1), 1);
  }

  @Says(at = "Promise 43", words = "Returns the number of orphan nights of the plan.")
  static void orphanNumber() {
    Campground x = Due.made("class 50 50 9; class 50 50 9; site 0 0;");
    Due.same("no booking", x.orphanNights(0, 0), 0);
    Due.same("no site", x.orphanNights(1, 0), 0);
    x.book(0, 0, 3);
    x.book(0, 0, 3);
    x.book(0, 16, 1);
    x.book(0, 16, 1);
    Due.same("two gaps, but no minimum", x.orphanNights(0, 0), 0);
    x.addSeason(0, 3, 3, 14, 20);
    Due.same("two gaps of 13 nights with the minimum 14", x.orphanNights(0, 0), 26);
    x.addSeason(0, 3, 3, 13, 20);
    Due.same("with the minimum 13", x.orphanNights(0, 0), 0);
  }

  @Says(at = "Promise 43", words = "Throws `IndexOutOfBoundsException` if there is no such class")
  static void orphansOfNoClass() {
    Edges.noSuchClass("orphanNights", (x, c) -> x.orphanNights(c, 0));
    Campground x = Due.made("class 9 9 9;");
    Due.thrown("both wrong", x, Due.INDEX, () -> x.orphanNights(1, 2));
  }

  @Says(at = "Promise 43", words = "Throws `IllegalArgumentException` if policy is out of range")
  static void orphansOfWrongPolicy() {
    Edges.range("policy", "class 9 9 9; site 0;", 0, 1, (x, policy) -> x.orphanNights(0, policy));
  }

  @Says(at = "Promise 44", words = "`first`: the first night, present day to 998")
  static void numeratorFirst() {
    nightRange("first", (x, first) -> x.occupancyNumerator(0, first, 998));
    Campground x = Due.made("class 50 50 9; site 0; day 5;");
    x.book(0, 5, 1);
    Due.same("the present night", x.occupancyNumerator(0, 5, 6), 1);
    Due.same("the next night", x.occupancyNumerator(0, 6, 6), 0);
  }

  @Says(at = "Promise 44", words = "`last`: the last night, first to 998")
  static void numeratorLast() {
    nightRange("last", (x, last) -> x.occupancyNumerator(0, x.today(), last));
    Campground x = Due.made("class 50 50 9; site 0; day 990;");
    x.book(0, 998, 1);
    Due.same("with the last night", x.occupancyNumerator(0, 990, 998), 1);
    Due.same("without it", x.occupancyNumerator(0, 990, 997), 0);
    Due.same("the last night alone", x.occupancyNumerator(0, 998, 998), 1);
    Due.thrown("last before first", x, Due.ARGUMENT, () -> x.occupancyNumerator(0, 995, 994));
  }

  @Says(at = "Promise 44", words = "Returns the numerator of the occupancy (the sum of the taken ones over all these "
      + "nights, divided by the sum of the capacities) in lowest terms; 0 if nothing is taken.")
  static void numerator() {
    Campground x = occupied();
    int[][] want = {{0, 998, 8}, {0, 0, 0}, {3, 3, 1}, {4, 5, 1}, {3, 5, 5}, {3, 6, 3}, {7, 8, 1}, {9, 998, 0}};
    for (int[] w : want) {
      Due.same("numerator " + w[0] + " to " + w[1], x.occupancyNumerator(0, w[0], w[1]), w[2]);
    }
    Due.same("no site", Due.made("class 9 9 9;").occupancyNumerator(0, 0, 998), 0);
  }

  @Says(at = "Promise 44", words = "Throws `IndexOutOfBoundsException` if there is no such class")
  static void numeratorOfNoClass() {
    Edges.noSuchClass("occupancyNumerator", (x, c) -> x.occupancyNumerator(c, 0, 0));
    Campground x = Due.made("class 9 9 9; day 5;");
    Due.thrown("all wrong", x, Due.INDEX, () -> x.occupancyNumerator(1, 4, 999));
  }

  @Says(at = "Promise 44", words = "Throws `IllegalArgumentException` if first or last is out of range")
  static void numeratorOfWrongNights() {
    wrongNights((x, first, last) -> x.occupancyNumerator(0, first, last));
  }

  @Says(at = "Promise 45", words = "`first`: the first night, present day to 998")
  static void denominatorFirst() {
    nightRange("first", (x, first) -> x.occupancyDenominator(0, first, 998));
    Campground x = Due.made("class 50 50 9; site 0; day 5;");
    x.book(0, 5, 1);
    Due.same("the present night", x.occupancyDenominator(0, 5, 6), 2);
    Due.same("the next night", x.occupancyDenominator(0, 6, 6), 1);
  }

  @Says(at = "Promise 45", words = "`last`: the last night, first to 998")
  static void denominatorLast() {
    nightRange("last", (x, last) -> x.occupancyDenominator(0, x.today(), last));
    Campground x = Due.made("class 50 50 9; site 0; day 990;");
    x.book(0, 990, 1);
    Due.same("to the last night", x.occupancyDenominator(0, 990, 998), 9);
    Due.same("to the night before it", x.occupancyDenominator(0, 990, 997), 8);
    Due.thrown("last before first", x, Due.ARGUMENT, () -> x.occupancyDenominator(0, 995, 994));
  }

  @Says(at = "Promise 45", words = "Returns the denominator of the occupancy in lowest terms; 1 if nothing is taken.")
  static void denominator() {
    Campground x = occupied();
    int[][] want = {{0, 998, 1993}, {0, 0, 1}, {3, 3, 2}, {4, 5, 1}, {3, 5, 6}, {3, 6, 4}, {7, 8, 2}, {9, 998, 1}};
    for (int[] w : want) {
      Due.same("denominator " + w[0] + " to " + w[1], x.occupancyDenominator(0, w[0], w[1]), w[2]);
    }
    Due.same("no site", Due.made("class 9 9 9;").occupancyDenominator(0, 0, 998), 1);
    Campground closed = Due.made("class 9 9 9; site 0;");
    closed.close(0, 999);
    Due.same("no capacity", closed.occupancyDenominator(0, 0, 998), 1);
  }

  /**
   * Capacity: none on the nights 0 and 1, one on night 2, then two.
   * Taken: one on night 3, two on the nights 4 and 5, one on the nights 6 to 8.
   */
  private static Campground occupied() {
    Campground x = Due.made("class 50 50 9; site 0 0;");
    x.book(0, 3, 3);
    x.book(0, 4, 5);
    x.close(0, 2);
    x.close(1, 3);
    return x;
  }

  @Says(at = "Promise 45", words = "Throws `IndexOutOfBoundsException` if there is no such class")
  static void denominatorOfNoClass() {
    Edges.noSuchClass("occupancyDenominator", (x, c) -> x.occupancyDenominator(c, 0, 0));
    Campground x = Due.made("class 9 9 9; day 5;");
    Due.thrown("all wrong", x, Due.INDEX, () -> x.occupancyDenominator(1, 4, 999));
  }

  @Says(at = "Promise 45", words = "Throws `IllegalArgumentException` if first or last is out of range")
  static void denominatorOfWrongNights() {
    wrongNights((x, first, last) -> x.occupancyDenominator(0, first, last));
  }

  @Says(at = "Promise 46", words = "`siteClass`: a class, or NONE for all classes")
  static void expectedClasses() {
    Campground x = Due.made("class 50 50 9; class 50 50 9; site 0 1 1;");
    x.book(0, 3, 1);
    x.book(1, 3, 1);
    x.book(1, 3, 1);
    Due.same("class 0", x.expected(0, 3, false), 1);
    Due.same("class 1", x.expected(1, 3, false), 2);
    Due.same("all classes", x.expected(NONE, 3, false), 3);
    Due.same("class 0 departs", x.expected(0, 4, true), 1);
    Due.same("class 1 departs", x.expected(1, 4, true), 2);
    Due.same("all classes depart", x.expected(NONE, 4, true), 3);
    Due.same("no classes", new Campground().expected(NONE, 0, false), 0);
  }

  @Says(at = "Promise 46", words = "`day`: 0 to 999")
  static void expectedDays() {
    Campground first = Due.made("class 50 50 9; site 0;");
    first.book(0, 0, 1);
    Due.same("arrives on day 0", first.expected(0, 0, false), 1);
    Due.same("departs on day 0", first.expected(0, 0, true), 0);
    Campground last = Due.made("class 50 50 9; site 0; day 990;");
    last.book(0, 998, 1);
    Due.same("departs on day 999", last.expected(0, 999, true), 1);
    Due.same("arrives on day 999", last.expected(0, 999, false), 0);
    Due.same("arrives on day 998", last.expected(0, 998, false), 1);
    Due.same("long ago", last.expected(0, 0, false), 0);
  }

  @Says(at = "Promise 46", words = "`departing`: false: the BOOKED bookings that arrive on the day; true: the active "
      + "bookings that depart on it")
  static void expectedStates() {
    Campground x = Due.made("class 50 50 9; site 0 0 0 0;");
    for (int b = 0; b < 4; b++) {
      x.book(0, 0, 2);
    }
    expected(x, "all are BOOKED", 4, 4);
    x.checkIn(0, 0);
    expected(x, "one is STAYING", 3, 4);
    x.cancel(1);
    expected(x, "one is CANCELLED", 2, 3);
    x.checkIn(2, 1);
    x.departEarly(2);
    expected(x, "one is DONE", 1, 2);
    Due.same("the DONE one does not depart again", x.expected(0, 1, true), 0);
    x.endDays(1);
    expected(x, "one is ABSENT", 0, 1);
    x.endDays(1);
    expected(x, "all are DONE", 0, 0);
  }

  private static void expected(Campground x, String what, int arriving, int departing) {
    Due.same(what + ", arriving on day 0", x.expected(0, 0, false), arriving);
    Due.same(what + ", departing on day 2", x.expected(0, 2, true), departing);
    Due.same(what + ", arriving on day 2", x.expected(0, 2, false), 0);
    Due.same(what + ", departing on day 0", x.expected(0, 0, true), 0);
  }

  @Says(at = "Promise 46", words = "Throws `IndexOutOfBoundsException` if siteClass is neither NONE nor a class")
  static void expectedOfNoClass() {
    for (boolean departing : new boolean[] {false, true}) {
      for (int count = 0; count <= 4; count++) {
        Campground x = Due.made(count == 0 ? "" : Edges.classes(count));
        for (int c : new int[] {Edges.MIN, -2, count, count + 1, Edges.MAX}) {
          Due.thrown("class " + c + " of " + count, x, Due.INDEX, () -> x.expected(c, 0, departing));
          Due.thrown("both wrong", x, Due.INDEX, () -> x.expected(c, 1000, departing));
        }
        Due.same("NONE", x.expected(NONE, 0, departing), 0);
      }
    }
  }

  @Says(at = "Promise 46", words = "Throws `IllegalArgumentException` if day is out of range")
  static void expectedOnNoDay() {
    for (boolean departing : new boolean[] {false, true}) {
      Edges.range("day", "class 9 9 9;", 0, 999, (x, day) -> x.expected(0, day, departing));
      Edges.range("day", "class 9 9 9;", 0, 999, (x, day) -> x.expected(NONE, day, departing));
    }
  }

  @Says(at = "Promise 47", words = "Returns the active booking of the class with the greatest cost per night (cost "
      + "divided by the number of its nights, compared exactly), of several the lowest number; NONE if there is none.")
  static void dearest() {
    Campground x = Due.made("class 50 50 9; class 50 50 9; site 0 0 0 0 1; season 0 10 10 1 21; season 1 0 99 1 99;");
    Due.same("none", x.dearestBooking(0), NONE);
    x.book(1, 0, 1);
    Due.same("none of this class", x.dearestBooking(0), NONE);
    x.book(0, 20, 1);
    x.book(0, 30, 28 - 7);
    Due.same("equal per night, the lower number", x.dearestBooking(0), 1);
    x.book(0, 10, 28);
    Due.same("561 for 28 is more than 20 for 1", x.dearestBooking(0), 3);
    x.book(0, 10, 27);
    Due.same("541 for 27 is more than 561 for 28", x.dearestBooking(0), 4);
    x.book(0, 9, 27);
    Due.same("of equal ones the lowest number", x.dearestBooking(0), 4);
    x.cancel(4);
    Due.same("a cancelled one is not active", x.dearestBooking(0), 5);
    Due.same("the other class", x.dearestBooking(1), 0);
    x.endDays(1);
    Due.same("an ABSENT one is not active", x.dearestBooking(1), NONE);
    Campground free = Due.made("class 50 50 9; site 0; season 0 0 99 1 0;");
    free.book(0, 3, 2);
    Due.same("for nothing, but the only one", free.dearestBooking(0), 0);
    free.endDays(3);
    free.checkIn(0, 0);
    Due.same("STAYING", free.dearestBooking(0), 0);
    free.departEarly(0);
    Due.same("DONE", free.dearestBooking(0), NONE);
  }

  @Says(at = "Promise 47", words = "Throws `IndexOutOfBoundsException` if there is no such class")
  static void dearestOfNoClass() {
    Edges.noSuchClass("dearestBooking", (x, c) -> x.dearestBooking(c));
  }

  @Says(at = "Promise 48", words = "`first`: the first night, present day to 998")
  static void busiestFirst() {
    nightRange("first", (x, first) -> x.busiestNight(0, first, 998));
    Campground x = Due.made("class 50 50 9; site 0; day 5;");
    x.book(0, 5, 1);
    x.book(0, 9, 1);
    Due.same("from the present night", x.busiestNight(0, 5, 998), 5);
    Due.same("from the next night", x.busiestNight(0, 6, 998), 9);
    Due.same("from the last one that is taken", x.busiestNight(0, 9, 998), 9);
    Due.same("from the night after it", x.busiestNight(0, 10, 998), 10);
    Due.same("from 998", x.busiestNight(0, 998, 998), 998);
  }

  @Says(at = "Promise 48", words = "`last`: the last night, first to 998")
  static void busiestLast() {
    nightRange("last", (x, last) -> x.busiestNight(0, x.today(), last));
    Campground x = Due.made("class 50 50 9; site 0; day 990;");
    x.book(0, 998, 1);
    Due.same("to 998", x.busiestNight(0, 990, 998), 998);
    Due.same("to 997", x.busiestNight(0, 990, 997), 990);
    Due.thrown("last before first", x, Due.ARGUMENT, () -> x.busiestNight(0, 995, 994));
  }

  @Says(at = "Promise 48", words = "Returns the night with the most taken ones, of several the earliest one.")
  static void busiest() {
    Campground x = Due.made("class 50 50 9; class 50 50 9; site 0 0 1 1 1;");
    Due.same("nothing is taken", x.busiestNight(0, 7, 998), 7);
    x.book(0, 5, 3);
    Due.same("one, the first of its nights", x.busiestNight(0, 0, 998), 5);
    Due.same("the second night of the range", x.busiestNight(0, 4, 998), 5);
    Due.same("the first night of the range", x.busiestNight(0, 5, 998), 5);
    Due.same("the last night of the range", x.busiestNight(0, 3, 5), 5);
    x.book(0, 7, 2);
    Due.same("two on night 7", x.busiestNight(0, 0, 998), 7);
    x.book(0, 8, 1);
    Due.same("two on the nights 7 and 8", x.busiestNight(0, 0, 998), 7);
    Due.same("from night 8", x.busiestNight(0, 8, 998), 8);
    Due.same("to night 6", x.busiestNight(0, 0, 6), 5);
    Due.same("the other class", x.busiestNight(1, 0, 998), 0);
    x.cancel(0);
    Due.same("a cancelled one takes nothing", x.busiestNight(0, 0, 998), 8);
  }

  @Says(at = "Promise 48", words = "Throws `IndexOutOfBoundsException` if there is no such class")
  static void busiestOfNoClass() {
    Edges.noSuchClass("busiestNight", (x, c) -> x.busiestNight(c, 0, 0));
    Campground x = Due.made("class 9 9 9; day 5;");
    Due.thrown("all wrong", x, Due.INDEX, () -> x.busiestNight(1, 4, 999));
  }

  @Says(at = "Promise 48", words = "Throws `IllegalArgumentException` if first or last is out of range")
  static void busiestOfWrongNights() {
    wrongNights((x, first, last) -> x.busiestNight(0, first, last));
  }

  @Says(at = "Promise 49", words = "Returns the sum of the costs of all bookings.")
  static void revenue() {
    Due.same("none", new Campground().revenue(), 0);
    Campground x = Due.made("class 50 50 9; class 50 50 9; site 0 0 1; day 1;");
    x.book(0, 1, 1);
    x.book(0, 1, 2);
    x.book(1, 1, 3);
    x.book(1, 10, 4);
    Due.same("BOOKED", x.revenue(), 200);
    x.checkIn(0, 0);
    x.checkIn(1, 1);
    x.cancel(3);
    Due.same("half of one refunded", x.revenue(), 160);
    x.endDays(1);
    Due.same("DONE and ABSENT ones too", x.revenue(), 160);
    Campground most = Due.made("class 200 200 16; site 0 0 0 0 0 0 0 0 0 0 0 0 0 0 0 0; season 0 0 999 1 9999;");
    for (int b = 0; b < 60; b++) {
      most.book(0, 28 * (b / 16), 28);
    }
    Due.same("60 of the dearest", most.revenue(), 60 * 28 * 9999);
  }

  private interface OfNights {
    void on(Campground x, int first, int last);
  }

  /** The first or the last night, from the present day to 998, in a class with one site. */
  private static void nightRange(String name, Edges.Call call) {
    for (int day : new int[] {0, 500, 998}) {
      Edges.range(name + " on day " + day, "class 9 9 9; site 0; day " + day + ";", day, 998, call);
    }
    Campground over = Due.made("class 9 9 9; site 0; day 999;");
    for (int night : new int[] {998, 999, 1000}) {
      Due.thrown(name + " on day 999: " + night, over, Due.ARGUMENT, () -> call.on(over, night));
    }
  }

  private static void wrongNights(OfNights call) {
    Campground x = Due.made("class 9 9 9; site 0; day 5;");
    int[][] wrong = {{4, 9}, {-1, 9}, {999, 999}, {9, 8}, {9, 999}, {5, 4}, {Edges.MIN, 9}, {Edges.MAX, Edges.MAX},
        {5, Edges.MAX}, {5, Edges.MIN}, {4, 4}};
    for (int[] w : wrong) {
      Due.thrown(w[0] + " to " + w[1], x, Due.ARGUMENT, () -> call.on(x, w[0], w[1]));
    }
  }

  /** Two stays of unequal length, and one behind them whose site depends on the policy. */
  private static Campground twoPolicies() {
    Campground x = Due.made("class 50 50 9; site 0 0;");
    x.book(0, 0, 1);
    x.book(0, 0, 2);
    x.book(0, 3, 1);
    return x;
  }
}
