/** The edges of promise 14: pay. */
public final class PayEdgesTest {
  private static final int PIN = Cards.CODE;
  private static final int NUMBER = Cards.NUMBER;

  public static void main(String[] args) {
    Edges.run(PayEdgesTest.class);
  }

  @Says(in = "Promise 14", value = "NONE (refused, nothing is sent) if shown or given is not 0 .. 281474976710655")
  static void amountsAtBothEnds(Check check) {
    for (long amount : new long[] {0, 1, Check.MOST - 1, Check.MOST}) {
      check.due("alone " + amount, Cards.at(0).pay(amount, amount, NUMBER, PIN, false), 1);
      check.due("asking " + amount, Cards.at(0).pay(amount, amount, NUMBER, PIN, true), 2);
    }
    for (long amount : new long[] {-1, Check.MOST + 1, Long.MIN_VALUE, Long.MAX_VALUE}) {
      check.due("shown " + amount, Cards.at(0).pay(amount, 1, NUMBER, PIN, true), -1);
      check.due("given " + amount, Cards.at(0).pay(1, amount, NUMBER, PIN, true), -1);
      check.due("both " + amount, Cards.at(0).pay(amount, amount, NUMBER, PIN, false), -1);
    }
  }

  @Says(in = "Promise 14", value = "or pin is above 9999")
  static void pinsAboveTheLast(Check check) {
    for (int pin : new int[] {10000, 10001, 11234, Integer.MAX_VALUE}) {
      check.due("pin " + pin, Cards.at(0).pay(1, 1, NUMBER, pin, false), -1);
    }
    PurseCard x = Cards.at(0);
    x.code(9999);
    check.due("pin 9999", x.pay(1, 1, NUMBER, 9999, false), 1);
  }

  @Says(in = "Promise 14", value = "if pin is not negative, PROVE with it")
  static void pinsAtNought(Check check) {
    PurseCard x = Cards.at(0);
    x.code(0);
    check.due("pin 0", x.pay(1, 1, NUMBER, 0, false), 1);
    check.due("genuine, proven", x.genuine(1, NUMBER, true), true);
    for (int pin : new int[] {-1, -1234, -9999, Integer.MIN_VALUE}) {
      PurseCard y = Cards.at(0);
      check.due("pin " + pin, y.pay(1, 1, NUMBER, pin, false), 2);
      check.due("tries()", y.tries(), 3);
      check.due("genuine, not proven", y.genuine(1, NUMBER, false), true);
    }
  }

  @Says(in = "Promise 14", value = "PROVE with it")
  static void pinsWithZerosInFront(Check check) {
    for (int pin : new int[] {0, 1, 9, 10, 99, 100, 999, 1000, 9090, 9999}) {
      PurseCard x = Cards.at(0);
      x.code(pin);
      check.due("pin " + pin, x.pay(1, 1, NUMBER, pin, false), 1);
      check.due("another", x.pay(1, 1, NUMBER, (pin + 1) % 10000, false), 2);
      check.due("tries()", x.tries(), 2);
    }
  }

  @Says(in = "Promise 14", value = "(for PROVE: also another one than 63Cx)")
  static void wrongPinsUntilNoTryIsLeft(Check check) {
    PurseCard x = Cards.at(0);
    for (int left = 2; left >= 0; left--) {
      check.due("wrong pin, " + left + " left", x.pay(1, 1, NUMBER, 1, false), 2);
      check.due("tries()", x.tries(), left);
      check.due("genuine, not proven", x.genuine(1, NUMBER, false), true);
    }
    check.due("no try left", x.pay(1, 1, NUMBER, PIN, false), -0x6983);
    check.due("stage()", x.stage(), 2);
    check.due("answered()", x.answered(), 0);
    check.due("counter()", x.counter(), 4);
    check.due("without a pin", x.pay(1, 1, NUMBER, -1, false), 2);
  }

  @Says(in = "Promise 14", value = "nothing more is sent, and - status is answered")
  static void noCounterLeft(Check check) {
    for (int stage = 0; stage <= 4; stage++) {
      PurseCard x = Cards.at(stage);
      x.advance(65534);
      check.due("the last", x.pay(1, 1, NUMBER, PIN, false), 1);
      check.due("none left", x.pay(1, 1, NUMBER, 1, true), -0x6985);
      check.due("stage()", x.stage(), 1);
      check.due("counter()", x.counter(), 65535);
      check.due("PROVE was not sent", x.tries(), 3);
      check.due("answered()", x.answered(), 0);
      check.due("wipe()", x.wipe(), 0);
    }
  }

  @Says(in = "Promise 14", value = "it types the row (what was typed is lost)")
  static void aFullRowIsLost(Check check) {
    for (int size : new int[] {0, 1, 4, 39, 40}) {
      PurseCard x = Cards.at(0);
      Check.type(x, "80".repeat(size));
      check.due("pay over " + size + " bytes", x.pay(1, 1, NUMBER, PIN, false), 1);
      check.due("wipe()", x.wipe(), 0);
    }
  }

  @Says(in = "Promise 14", value = "SELECT with the whole name")
  static void fromEveryStage(Check check) {
    for (int stage = 0; stage <= 4; stage++) {
      for (int name : new int[] {0, 0xFFFFFF, -1}) {
        PurseCard x = new PurseCard(name);
        if (stage > 0) {
          Check.send(x, Check.select(name));
          Check.send(x, stage > 1 ? Check.ready(9) : "");
          Check.send(x, stage > 2 ? Check.seal(0x80, 9, 9) : "");
          Check.send(x, stage > 3 ? Check.seal(0x00, 9, 9, "3035") : "");
        }
        check.due("stage()", x.stage(), stage);
        check.due("pay", x.pay(5, 5, NUMBER, 0, false), 1);
        check.due("stage()", x.stage(), 4);
      }
    }
  }

  @Says(in = "Promise 14", value = "READ of every record that the answer names, in order")
  static void withoutRecordsAndWithAllFilesFull(Check check) {
    PurseCard none = new PurseCard(Cards.NAME);
    check.due("none", none.pay(5, 5, NUMBER, 0, true), 2);
    PurseCard all = Cards.full();
    check.due("all", all.pay(5, 5, NUMBER, 0, true), 2);
    PurseCard longest = new PurseCard(Cards.NAME);
    for (int i = 0; i < 12; i++) {
      Check.keep(longest, 1 + i % 4, "FF".repeat(30));
    }
    check.due("all of 30 bytes", longest.pay(5, 5, NUMBER, 0, false), 1);
    check.due("the answer is SEAL's", longest.genuine(5, NUMBER, true), true);
  }

  @Says(in = "Promise 14", value = "SEAL with P1 80 if asking, else 40, the amount given and the number")
  static void numbersAtBothEnds(Check check) {
    for (int number : new int[] {0, -1, Integer.MIN_VALUE, Integer.MAX_VALUE}) {
      PurseCard x = Cards.at(0);
      check.due("alone, number " + number, x.pay(5, 5, number, PIN, false), 1);
      check.due("answer", Check.answer(x), Check.sealed(Cards.KEY, 5, number, 1, 0x40, true));
      check.due("asking, number " + number, x.pay(5, 5, number, PIN, true), 2);
      check.due("answer", Check.answer(x), Check.sealed(Cards.KEY, 5, number, 2, 0x40, true));
    }
  }

  @Says(in = "Promise 14", value = "If the answer's 9F 27 is 40 then: 1 is answered.")
  static void aloneAtItsEdge(Check check) {
    PurseCard x = Cards.at(0);
    int[] want = {1, 1, 2, 1, 1, 2, 1};
    for (int i = 0; i < want.length; i++) {
      check.due("payment " + i, x.pay(5, 5, NUMBER, PIN, false), want[i]);
    }
    PurseCard y = Cards.at(0);
    y.pay(5, 5, NUMBER, PIN, false);
    y.pay(5, 5, NUMBER, PIN, false);
    check.due("the third is asked for, not shown so", y.pay(6, 5, NUMBER, PIN, false), 0);
    check.due("ALONE is still 2", y.pay(5, 5, NUMBER, PIN, false), 2);
    check.due("ALONE is 0 again", y.pay(5, 5, NUMBER, PIN, false), 1);
  }

  @Says(in = "Promise 14", value = "the issuer looks whether the answer is genuine for the amount shown")
  static void shownOneMoreAndOneLess(Check check) {
    for (long given : new long[] {1, 2, Check.MOST - 1}) {
      for (int more = -1; more <= 1; more++) {
        PurseCard x = Cards.at(0);
        check.due("asking", x.pay(given + more, given, NUMBER, PIN, true), more == 0 ? 2 : 0);
        check.due("answer", Check.answer(x), Check.sealed(Cards.KEY, given, NUMBER, 1, more == 0 ? 0x40 : 0, true));
        check.due("stage()", x.stage(), 4);
        check.due("alone the issuer is not asked", Cards.at(0).pay(given + more, given, NUMBER, PIN, false), 1);
      }
    }
    check.due("both ends", Cards.at(0).pay(0, Check.MOST, NUMBER, PIN, true), 0);
    check.due("both ends", Cards.at(0).pay(Check.MOST, 0, NUMBER, -1, false), 0);
  }

  @Says(in = "Promise 14", value = "and proven if PROVE had the status 9000")
  static void provenOrNot(Check check) {
    int[] pins = {PIN, PIN + 1, -1};
    for (int pin : pins) {
      PurseCard x = Cards.at(0);
      check.due("pin " + pin, x.pay(5, 5, NUMBER, pin, true), 2);
      check.due("answer", Check.answer(x), Check.sealed(Cards.KEY, 5, NUMBER, 1, 0x40, pin == PIN));
    }
  }
}
