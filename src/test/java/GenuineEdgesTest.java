/** The edges of promise 13: genuine. */
public final class GenuineEdgesTest {
  private static final long AMOUNT = Cards.AMOUNT;
  private static final int NUMBER = Cards.NUMBER;

  public static void main(String[] args) {
    Edges.run(GenuineEdgesTest.class);
  }

  @Says(in = "Promise 13", value = "False also if amount is not 0 .. 281474976710655")
  static void amountsAtBothEnds(Check check) {
    PurseCard least = sealing(0);
    check.due("0", least.genuine(0, NUMBER, false), true);
    check.due("the same six bytes, above", least.genuine(Check.MOST + 1, NUMBER, false), false);
    check.due("the same six bytes, below", least.genuine(-Check.MOST - 1, NUMBER, false), false);
    check.due("the same six bytes, least", least.genuine(Long.MIN_VALUE, NUMBER, false), false);
    PurseCard most = sealing(Check.MOST);
    check.due("most", most.genuine(Check.MOST, NUMBER, false), true);
    check.due("the same six bytes, -1", most.genuine(-1, NUMBER, false), false);
    check.due("the same six bytes, of all longs", most.genuine(Long.MAX_VALUE, NUMBER, false), false);
    check.due("the same six bytes, twice", most.genuine(2 * Check.MOST + 1, NUMBER, false), false);
  }

  private static PurseCard sealing(long amount) {
    PurseCard x = Cards.at(1);
    Cards.takes(x, Check.ready(amount));
    Cards.takes(x, Check.seal(0x80, amount, NUMBER));
    return x;
  }

  @Says(in = "Promise 13", value = "for that amount, number, and code proven or not")
  static void everyBitOfAmountAndNumber(Check check) {
    PurseCard x = Cards.provenAndSealed();
    check.due("as sealed", x.genuine(AMOUNT, NUMBER, true), true);
    check.due("not proven", x.genuine(AMOUNT, NUMBER, false), false);
    for (int bit = 0; bit < 48; bit++) {
      check.due("amount with another bit " + bit, x.genuine(AMOUNT ^ (1L << bit), NUMBER, true), false);
    }
    for (int bit = 0; bit < 32; bit++) {
      check.due("number with another bit " + bit, x.genuine(AMOUNT, NUMBER ^ (1 << bit), true), false);
    }
    check.due("still as sealed", x.genuine(AMOUNT, NUMBER, true), true);
  }

  @Says(in = "Promise 13", value = "for that amount, number")
  static void numbersAtBothEnds(Check check) {
    for (int number : new int[] {0, -1, Integer.MIN_VALUE, Integer.MAX_VALUE}) {
      PurseCard x = Cards.at(2);
      Cards.takes(x, Check.seal(0x80, AMOUNT, number));
      check.due("number " + number, x.genuine(AMOUNT, number, false), true);
      check.due("not " + ~number, x.genuine(AMOUNT, ~number, false), false);
    }
  }

  @Says(in = "Promise 13", value = "Whether the answer begins with the byte 77")
  static void anEmptyAnswer(Check check) {
    check.due("new", new PurseCard(1).genuine(0, 0, false), false);
    PurseCard x = Cards.at(3);
    check.due("SEAL", x.genuine(AMOUNT, NUMBER, false), true);
    x.send();
    check.due("behind a fault", x.genuine(AMOUNT, NUMBER, false), false);
  }

  /** A record may hold the very rows that a SEAL has answered, but READ answers 70 before them. */
  @Says(in = "Promise 13", value = "Whether the answer begins with the byte 77")
  static void anAnswerOfAnotherCommand(Check check) {
    PurseCard x = Cards.at(3);
    String sealed = Check.answer(x);
    Check.keep(x, 1, sealed);
    Check.keep(x, 1, sealed.substring(4));
    check.due("keep leaves the answer", x.genuine(AMOUNT, NUMBER, false), true);
    for (int number = 1; number <= 2; number++) {
      Cards.takes(x, Cards.read(1, number));
      check.due("9F 26 is there", x.find(0x9F26) > 0, true);
      check.due("READ of record " + number, x.genuine(AMOUNT, NUMBER, false), false);
    }
    Cards.takes(x, "80CA9F36");
    check.due("GET", x.genuine(AMOUNT, NUMBER, false), false);
    Cards.takes(x, Check.select(Cards.NAME));
    check.due("SELECT", x.genuine(AMOUNT, NUMBER, false), false);
    Cards.takes(x, Check.ready(AMOUNT));
    check.due("READY", x.genuine(AMOUNT, NUMBER, false), false);
  }

  @Says(in = "Promise 13", value = "and the last is what the card would have sealed with them")
  static void everyGivenAndEveryCounter(Check check) {
    for (int counter : new int[] {1, 255, 256, 65535}) {
      for (int wanted : new int[] {0x00, 0x40, 0x80}) {
        PurseCard x = Cards.proven();
        x.advance(counter);
        Cards.takes(x, Check.seal(wanted, AMOUNT, NUMBER));
        check.due("given " + wanted + ", counter " + counter, x.genuine(AMOUNT, NUMBER, true), true);
        // the answer's counter is looked at, not the card's
        x.advance(65535);
        check.due("counter advanced", x.genuine(AMOUNT, NUMBER, true), true);
      }
    }
  }

  /** Numbers for which the first, or the last, byte of the eight is the same all the same. */
  @Says(in = "Promise 13", value = "the last is what the card would have sealed")
  static void oneByteAlikeIsNotEnough(Check check) {
    PurseCard x = Cards.at(3);
    String eight = Check.answer(x).substring(28);
    boolean first = false;
    boolean last = false;
    for (int number = 0; number < 5000 && !(first && last); number++) {
      String other = Check.sealed(Cards.KEY, AMOUNT, number, 1, 0x80, false).substring(28);
      boolean sameFirst = other.substring(0, 2).equals(eight.substring(0, 2));
      boolean sameLast = other.substring(14).equals(eight.substring(14));
      if (number != NUMBER && (sameFirst || sameLast)) {
        first |= sameFirst;
        last |= sameLast;
        check.due("number " + number, x.genuine(AMOUNT, number, false), false);
      }
    }
    check.due("both were met", first && last, true);
  }

  @Says(in = "Promise 13", value = "what the card would have sealed with them")
  static void anotherKey(Check check) {
    PurseCard x = Cards.at(3);
    x.key(0x0123456789ABCDEFL, 0xFEDCBA9876543211L);
    check.due("one bit of the key", x.genuine(AMOUNT, NUMBER, false), false);
    x.key(0x0123456789ABCDEFL, 0xFEDCBA9876543210L);
    check.due("the key again", x.genuine(AMOUNT, NUMBER, false), true);
  }

  @Says(in = "Promise 13", value = "Whether the answer")
  static void changesNothing(Check check) {
    for (int stage = 0; stage <= 4; stage++) {
      PurseCard x = Cards.at(stage);
      PurseCard twin = Cards.at(stage);
      Check.type(x, "0102");
      Check.type(twin, "0102");
      x.genuine(AMOUNT, NUMBER, false);
      x.genuine(-1, NUMBER, true);
      x.genuine(AMOUNT + 1, 0, true);
      check.due("the card at stage " + stage, Exam.of(x), Exam.of(twin));
    }
  }
}
