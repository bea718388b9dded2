/**
 * All that can be told of a card as one text, so that two cards which are alike have the same one. The card is used up
 * by it: some 350 calls.
 */
final class Exam {
  private Exam() {
  }

  static String of(PurseCard x) {
    return shown(x) + inside(x);
  }

  /** The row and the answer. */
  private static String shown(PurseCard x) {
    StringBuilder told = new StringBuilder("answer " + Check.answer(x) + ", row ");
    for (int i = 0; i < 16; i++) {
      told.append(Check.number(x.seal(i), 1));
    }
    told.append(", genuine ").append(x.genuine(Cards.AMOUNT, Cards.NUMBER, false));
    told.append(x.genuine(Cards.AMOUNT, Cards.NUMBER, true));
    return told.append(", wiped ").append(x.wipe()).append('\n').toString();
  }

  /** What the card holds, the row and the answer left aside: a payment is ended, then others are made. */
  static String inside(PurseCard x) {
    StringBuilder told = new StringBuilder(counts(x));
    x.wipe();
    told.append(sent(x, Check.seal(0x40, Cards.AMOUNT, Cards.NUMBER)));
    told.append(sent(x, Check.seal(0x40, Cards.AMOUNT, Cards.NUMBER, "3030"))).append(counts(x));
    told.append(sent(x, Check.select(Cards.NAME)));
    told.append(sent(x, Check.ready(Cards.AMOUNT)));
    for (int file = 1; file <= 4; file++) {
      for (int number = 1; number <= 3; number++) {
        told.append(sent(x, Cards.read(file, number)));
      }
    }
    told.append(sent(x, Check.prove(Cards.PIN))).append(counts(x));
    // with a code that is known, the payments tell how often the card will give 40 alone
    x.code(1);
    for (int i = 0; i < 3; i++) {
      told.append(x.pay(1, 1, 1, 1, false)).append(' ');
    }
    return told.toString();
  }

  private static String counts(PurseCard x) {
    return "stage " + x.stage() + ", counter " + x.counter() + ", tries " + x.tries() + '\n';
  }

  private static String sent(PurseCard x, String command) {
    return Integer.toHexString(Check.send(x, command)) + ' ' + Check.answer(x) + '\n';
  }
}
