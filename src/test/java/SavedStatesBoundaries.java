/** Promises 55 and 56, sentence by sentence. */
final class SavedStatesBoundaries {
  private SavedStatesBoundaries() {
  }

  @Says(at = "Promise 55", words = "Saves everything except the text buffer, the latest error and the saved states.")
  static void everything() {
    Campground x = busy();
    String before = Due.seenCamp(x);
    Due.write(x, "day 1000;");
    x.load();
    Due.write(x, "day 5;");
    x.save(0);
    Due.same("nothing is changed by it", Due.seenCamp(x).equals(before) ? 1 : 0, 1);
    x.load();
    x.save(1);
    Due.write(x, "class 1 1 1;");
    x.restore(0);
    Due.same("everything", Due.seenCamp(x).equals(before) ? 1 : 0, 1);
    Due.same("not the error", x.errorCode(), 0);
    Due.same("not its position", x.errorPosition(), -1);
    Due.same("not the text", x.truncateText(12), 12);
    x.restore(1);
    Due.same("not the saved states", x.today(), 5);
    other(x);
    Due.write(x, "class 1 1 1;");
    x.restore(0);
    Due.same("everything, after quite another campground", Due.seenCamp(x).equals(before) ? 1 : 0, 1);
    Due.same("a closing", x.open(1), 20);
    Due.same("the requests", x.fill(0), 2);
    for (int r = 0; r < 2; r++) {
      Due.same("arrival of request " + r, x.arrival(x.bookingOf(r)), 30 + r);
      Due.same("departure of request " + r, x.departure(x.bookingOf(r)), 32 + r);
    }
    Due.same("the text is still there", x.load(), 1);
    Due.same("and is read", x.classCount(), 1);
  }

  @Says(at = "Promise 55", words = "`slot`: 0 or 1; a state that is already saved there is replaced")
  static void slots() {
    Campground x = new Campground();
    for (int slot = 0; slot < 2; slot++) {
      x.save(slot);
      x.endDays(1);
    }
    x.restore(0);
    Due.same("slot 0", x.today(), 0);
    x.restore(1);
    Due.same("slot 1", x.today(), 1);
    x.endDays(8);
    x.save(0);
    x.endDays(1);
    x.restore(0);
    Due.same("slot 0 is replaced", x.today(), 9);
    x.restore(1);
    Due.same("slot 1 is not", x.today(), 1);
    Campground smaller = busy();
    smaller.save(1);
    smaller.load();
    smaller.save(1);
    smaller.restore(1);
    Due.same("replaced by an empty one", Due.seen(smaller).equals(Due.seen(new Campground())) ? 1 : 0, 1);
  }

  @Says(at = "Promise 55", words = "Throws `IllegalArgumentException` if slot is out of range")
  static void saveInNoSlot() {
    Edges.range("save", "", 0, 1, (x, slot) -> x.save(slot));
  }

  @Says(at = "Promise 56", words = "Brings back a saved state, which stays saved.")
  static void staysSaved() {
    Campground x = busy();
    String before = Due.seen(x);
    x.save(1);
    for (int round = 0; round < 3; round++) {
      x.checkIn(x.book(1, 2, 1), 2);
      x.extend(0, 1);
      x.open(1);
      x.fill(0);
      x.addSeason(1, 0, 9, 9, 9);
      x.endDays(10 + round);
      x.addClass(9, 9, 9);
      x.addSite(2);
      x.restore(1);
      Due.same("round " + round, Due.seen(x).equals(before) ? 1 : 0, 1);
      Due.same("the next season", x.addSeason(1, 0, 0, 1, 1), 1);
      x.restore(1);
    }
  }

  @Says(at = "Promise 56", words = "`slot`: 0 or 1")
  static void restoreSlots() {
    Campground x = new Campground();
    x.save(0);
    x.save(1);
    x.restore(0);
    x.restore(1);
    Due.thrown("slot -1", x, Due.ARGUMENT, () -> x.restore(-1));
    Due.thrown("slot 2", x, Due.ARGUMENT, () -> x.restore(2));
  }

  @Says(at = "Promise 56", words = "Throws `IllegalArgumentException` if slot is out of range")
  static void restoreFromNoSlot() {
    Campground nothing = new Campground();
    Campground both = new Campground();
    both.save(0);
    both.save(1);
    for (int slot : new int[] {Edges.MIN, -1, 2, Edges.MAX}) {
      Due.thrown("nothing is saved, slot " + slot, nothing, Due.ARGUMENT, () -> nothing.restore(slot));
      Due.thrown("both are saved, slot " + slot, both, Due.ARGUMENT, () -> both.restore(slot));
    }
  }

  @Says(at = "Promise 56", words = "Throws `IllegalStateException` if nothing is saved there")
  static void restoreNothing() {
    for (int slot = 0; slot < 2; slot++) {
      int empty = slot;
      Campground x = busy();
      Due.thrown("nothing is saved", x, Due.STATE, () -> x.restore(empty));
      x.save(1 - slot);
      Due.thrown("only the other one", x, Due.STATE, () -> x.restore(empty));
      x.load();
      Due.thrown("nor after another setup", x, Due.STATE, () -> x.restore(empty));
    }
  }

  /** Makes it a campground in which every row holds something else. */
  private static void other(Campground x) {
    Due.write(x, "class 20 9 1; class 30 8 2; class 99 99 9; site 2 2 2; season 2 1 2 3 4;");
    x.load();
    for (int b = 0; b < 3; b++) {
      x.book(2, 0, 4 + b);
      x.checkIn(b, 2 - b);
      x.request(2, 60, 9);
    }
  }

  /** Something of everything, on day 2. */
  private static Campground busy() {
    Campground x = Due.made("class 50 50 9; class 50 50 9; site 0 0 1; season 0 3 9 2 33; day 2;");
    x.book(0, 2, 3);
    x.book(1, 4, 2);
    x.checkIn(0, 0);
    x.close(1, 20);
    x.request(0, 30, 2);
    x.request(0, 31, 2);
    return x;
  }
}
