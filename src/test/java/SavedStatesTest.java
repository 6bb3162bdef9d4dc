/** Promises 55 and 56: saved states. */
public final class SavedStatesTest {
  public static void main(String[] args) {
    wrongSlots();
    everything();
    twoSlots();
    whatIsNotSaved();
    afterAnotherSetup();
    Due.end();
  }

  private static void wrongSlots() {
    Campground x = Due.made("class 9 9 9; site 0;");
    for (int slot : new int[] {-1, 2, Integer.MIN_VALUE, Integer.MAX_VALUE}) {
      Due.thrown("save", x, Due.ARGUMENT, () -> x.save(slot));
      Due.thrown("restore", x, Due.ARGUMENT, () -> x.restore(slot));
    }
    Due.thrown("restore(0)", x, Due.STATE, () -> x.restore(0));
    x.save(1);
    Due.thrown("restore(0) still", x, Due.STATE, () -> x.restore(0));
    x.restore(1);
  }

  private static void everything() {
    Campground x = rich();
    String before = Due.seen(x);
    x.save(0);
    Due.same("save changes nothing", before.equals(Due.seen(x)) ? 1 : 0, 1);
    for (int round = 0; round < 2; round++) {
      change(x);
      Due.same("changed", before.equals(Due.seen(x)) ? 1 : 0, 0);
      x.restore(0);
      Due.same("restored", before.equals(Due.seen(x)) ? 1 : 0, 1);
    }
    Due.same("a restored closing", x.open(3), 20);
    x.restore(0);
    Due.same("restored once more", x.open(3), 20);
    x.restore(0);
    Due.same("restored requests are filled", x.fill(0), 1);
    x.restore(0);
    Due.same("the next season", x.addSeason(0, 0, 0, 1, 1), 1);
  }

  private static Campground rich() {
    Campground x = Due.made("class 50 40 2; class 20 5 1; site 0 0 1 0; season 0 3 9 2 33; day 2;");
    x.book(0, 2, 3);
    x.book(0, 2, 3);
    x.book(1, 3, 3);
    x.book(1, 8, 1);
    x.checkIn(0, 1);
    x.cancel(3);
    x.close(3, 20);
    x.request(0, 6, 2);
    x.request(0, 7, 2);
    x.withdraw(1);
    x.request(1, 10, 2);
    x.fill(1);
    return x;
  }

  private static void change(Campground x) {
    x.addClass(1, 1, 1);
    x.addSite(2);
    x.addSeason(0, 0, 999, 1, 99);
    x.move(0, 0);
    x.extend(2, 1);
    x.fill(0);
    x.open(3);
    x.request(0, 30, 1);
    x.endDays(3);
    x.cancel(x.book(0, 30, 2));
  }

  private static void twoSlots() {
    Campground x = Due.made("class 50 50 1; site 0;");
    x.save(0);
    x.endDays(5);
    x.save(1);
    x.endDays(5);
    x.restore(0);
    Due.same("slot 0", x.today(), 0);
    x.restore(1);
    Due.same("slot 1", x.today(), 5);
    x.endDays(1);
    x.save(0);
    x.endDays(1);
    x.restore(1);
    Due.same("slot 1 stays", x.today(), 5);
    x.restore(0);
    Due.same("slot 0 is replaced", x.today(), 6);
    Campground other = new Campground();
    Due.thrown("another object has none", other, Due.STATE, () -> other.restore(0));
  }

  private static void afterAnotherSetup() {
    Campground x = rich();
    x.save(0);
    String before = Due.seen(x);
    Due.write(x, "class 90 90 1; class 90 90 1; site 1 1 1 1 1; day 7;");
    x.load();
    for (int i = 0; i < 8; i++) {
      x.book(1, 30 + i, 4);
      x.cancel(i);
      x.request(1, 70, 9);
    }
    x.addSeason(1, 5, 50, 9, 9);
    x.restore(0);
    Due.same("restored", before.equals(Due.seen(x)) ? 1 : 0, 1);
    Due.same("the request is as it was", x.fill(0), 1);
    int b = x.bookingOf(0);
    Due.same("its class", x.bookingClass(b), 0);
    Due.same("its arrival", x.arrival(b), 6);
    Due.same("its departure", x.departure(b), 8);
  }

  private static void whatIsNotSaved() {
    Campground x = Due.made("class 50 50 1; site 0;");
    x.save(0);
    Due.write(x, "day 1000;");
    x.load();
    x.save(1);
    Due.write(x, "day 5;");
    x.restore(0);
    Due.same("the error stays", x.errorCode(), 2);
    Due.same("its position stays", x.errorPosition(), 4);
    Due.same("the text stays", x.load(), 1);
    Due.same("and is read", x.today(), 5);
    x.restore(1);
    Due.same("the error is not brought back", x.errorCode(), 0);
    Due.same("nor its position", x.errorPosition(), -1);
    Due.same("nor the text", x.appendText(0x20202020), 4);
  }
}
