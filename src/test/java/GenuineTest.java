/** Promise 13: genuine. */
public final class GenuineTest {
  public static void main(String[] args) {
    Check check = new Check();
    sealedOnes(check);
    limits(check);
    otherAnswers(check);
    later(check);
    check.end();
  }

  private static PurseCard sealed(int p1, long amount, int number, boolean proven) {
    PurseCard x = new PurseCard(0);
    x.key(3, -4);
    x.advance(0x1233);
    Check.send(x, Check.select(0));
    Check.send(x, Check.ready(amount));
    if (proven) {
      Check.send(x, Check.prove("0000"));
    }
    Check.send(x, Check.seal(p1, amount, number));
    return x;
  }

  private static void sealedOnes(Check check) {
    for (int p1 : new int[] {0, 0x40, 0x80}) {
      for (boolean proven : new boolean[] {false, true}) {
        PurseCard x = sealed(p1, 1000, 77, proven);
        check.due("genuine", x.genuine(1000, 77, proven), true);
        check.due("not proven so", x.genuine(1000, 77, !proven), false);
        check.due("another amount", x.genuine(1001, 77, proven), false);
        check.due("another number", x.genuine(1000, 78, proven), false);
        check.due("once more", x.genuine(1000, 77, proven), true);
      }
    }
  }

  private static void limits(Check check) {
    for (long amount : new long[] {0, 1, Check.MOST}) {
      for (int number : new int[] {0, -1, Integer.MIN_VALUE, Integer.MAX_VALUE}) {
        PurseCard x = sealed(0x80, amount, number, true);
        check.due("genuine " + amount + " " + number, x.genuine(amount, number, true), true);
        // the same six bytes, but no amount
        check.due("above", x.genuine(amount + Check.MOST + 1, number, true), false);
        check.due("below", x.genuine(amount - Check.MOST - 1, number, true), false);
        check.due("least", x.genuine(Long.MIN_VALUE + amount, number, true), false);
      }
    }
    check.due("-1", sealed(0x80, Check.MOST, 1, true).genuine(-1, 1, true), false);
  }

  private static void otherAnswers(Check check) {
    PurseCard x = new PurseCard(0);
    check.due("no answer", x.genuine(0, 0, false), false);
    Check.send(x, Check.select(0));
    check.due("SELECT", x.genuine(0, 0, false), false);
    // a record that holds the very rows of a SEAL is not one, for it begins with 70
    PurseCard y = sealed(0x80, 5, 6, false);
    String whole = Check.answer(y);
    Check.keep(y, 1, whole);
    Check.keep(y, 1, whole.substring(4));
    check.due("genuine", y.genuine(5, 6, false), true);
    Check.send(y, "00B2010C");
    check.due("READ of it", y.genuine(5, 6, false), false);
    check.due("its tag is found", y.find(0x9F26) > 0, true);
    Check.send(y, "00B2020C");
    check.due("READ of its rows", y.genuine(5, 6, false), false);
    PurseCard z = sealed(0x80, 5, 6, false);
    z.send();
    check.due("behind a fault", z.genuine(5, 6, false), false);
  }

  /** The answer tells counter and given, not the card as it is by now; the key is the card's of now. */
  private static void later(Check check) {
    PurseCard x = sealed(0x80, 5, 6, true);
    x.advance(65535);
    x.code(9);
    Check.type(x, "0102");
    check.due("genuine", x.genuine(5, 6, true), true);
    check.due("the row stays", x.wipe(), 2);
    check.due("stage()", x.stage(), 3);
    x.key(3, -5);
    check.due("another key", x.genuine(5, 6, true), false);
    x.key(3, -4);
    check.due("the key again", x.genuine(5, 6, true), true);
  }
}
