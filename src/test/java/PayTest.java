import java.util.Random;

/** Promise 14: pay. */
public final class PayTest {
  private static final int NAME = 0xA1B2C3;

  public static void main(String[] args) {
    Check check = new Check();
    answers(check);
    refusals(check);
    faults(check);
    whatStays(check);
    limits(check);
    stepByStep(check);
    check.end();
  }

  private static PurseCard card() {
    PurseCard x = new PurseCard(NAME);
    x.code(42);
    x.key(11, 12);
    return x;
  }

  private static void answers(Check check) {
    check.due("alone", card().pay(5, 5, 1, 42, false), 1);
    check.due("asking", card().pay(5, 5, 1, 42, true), 2);
    check.due("no pin", card().pay(5, 5, 1, -1, false), 2);
    check.due("no pin, least", card().pay(5, 5, 1, Integer.MIN_VALUE, false), 2);
    check.due("wrong pin", card().pay(5, 5, 1, 43, false), 2);
    check.due("another amount shown, asking", card().pay(5, 6, 1, 42, true), 0);
    check.due("another amount shown, alone", card().pay(5, 6, 1, 42, false), 1);
    check.due("another amount shown, no pin", card().pay(6, 5, 1, -1, false), 0);
    PurseCard x = card();
    int[] want = {1, 1, 2, 1, 1, 2};
    for (int i = 0; i < want.length; i++) {
      check.due("payment " + i, x.pay(9, 9, i, 42, false), want[i]);
      check.due("counter()", x.counter(), i + 1);
      check.due("stage()", x.stage(), 4);
    }
  }

  private static void refusals(Check check) {
    long[] wrong = {-1, Check.MOST + 1, Long.MIN_VALUE, Long.MAX_VALUE};
    PurseCard x = card();
    Check.send(x, "80CA9F17");
    Check.type(x, "010203");
    for (long amount : wrong) {
      check.due("shown " + amount, x.pay(amount, 1, 1, 42, false), -1);
      check.due("given " + amount, x.pay(1, amount, 1, 42, false), -1);
    }
    for (int pin : new int[] {10000, Integer.MAX_VALUE}) {
      check.due("pin " + pin, x.pay(1, 1, 1, pin, false), -1);
    }
    check.due("stage()", x.stage(), 0);
    check.due("counter()", x.counter(), 0);
    check.due("answer", Check.answer(x), "9F170103");
    check.due("the row stays", x.wipe(), 3);
  }

  private static void faults(Check check) {
    PurseCard x = card();
    x.advance(65534);
    check.due("the last counter", x.pay(1, 1, 1, 42, false), 1);
    check.due("no counter left", x.pay(1, 1, 1, 42, false), -0x6985);
    check.due("stage()", x.stage(), 1);
    check.due("answered()", x.answered(), 0);
    check.due("tries()", x.tries(), 3);
    PurseCard y = card();
    for (int left = 2; left >= 0; left--) {
      check.due("wrong pin", y.pay(1, 1, 1, 9999, true), 2);
      check.due("tries()", y.tries(), left);
    }
    check.due("no tries left", y.pay(1, 1, 1, 42, true), -0x6983);
    check.due("stage()", y.stage(), 2);
    check.due("answered()", y.answered(), 0);
    check.due("wipe()", y.wipe(), 0);
    check.due("counter()", y.counter(), 4);
    check.due("without a pin", y.pay(1, 1, 1, -1, true), 2);
  }

  private static void whatStays(Check check) {
    String key = "000000000000000B000000000000000C";
    PurseCard x = card();
    Check.type(x, "0102030405");
    check.due("pay", x.pay(7, 7, 8, 42, false), 1);
    check.due("what was typed is lost", x.wipe(), 0);
    check.due("the last answer", Check.answer(x), Check.sealed(key, 7, 8, 1, 0x40, true));
    x.pay(7, 7, 8, -1, false);
    check.due("the last answer", Check.answer(x), Check.sealed(key, 7, 8, 2, 0x40, false));
    x.pay(6, 7, 8, 42, true);
    check.due("the last answer", Check.answer(x), Check.sealed(key, 7, 8, 3, 0x00, true));
    x.pay(7, 7, 8, 41, true);
    check.due("the last answer", Check.answer(x), Check.sealed(key, 7, 8, 4, 0x40, false));
  }

  private static void limits(Check check) {
    for (long amount : new long[] {0, 1, Check.MOST}) {
      for (int number : new int[] {0, -1, Integer.MIN_VALUE, Integer.MAX_VALUE}) {
        check.due("pay " + amount + " " + number, card().pay(amount, amount, number, 42, true), 2);
        check.due("pay " + amount + " " + number, card().pay(amount, amount, number, 42, false), 1);
      }
    }
    for (int pin : new int[] {0, 9, 10, 99, 100, 999, 1000, 1234, 4321, 9990, 9999}) {
      PurseCard x = card();
      x.code(pin);
      check.due("pin " + pin, x.pay(1, 1, 1, pin, false), 1);
      check.due("tries()", x.tries(), 3);
    }
  }

  /** A twin gets the same commands typed one by one. */
  private static void stepByStep(Check check) {
    Random random = new Random(3);
    for (int round = 0; round < 400; round++) {
      PurseCard x = card();
      PurseCard twin = card();
      for (int n = random.nextInt(5); n > 0; n--) {
        int file = 1 + random.nextInt(4);
        String record = "5A".repeat(1 + random.nextInt(10));
        Check.keep(x, file, record);
        Check.keep(twin, file, record);
        x.wipe();
        twin.wipe();
      }
      for (int n = 0; n < 3; n++) {
        long given = random.nextInt(3);
        long shown = random.nextInt(4) == 0 ? random.nextInt(3) : given;
        int number = random.nextInt();
        int pin = random.nextInt(3) == 0 ? 41 : random.nextInt(4) == 0 ? -1 : 42;
        boolean asking = random.nextInt(3) == 0;
        int got = x.pay(shown, given, number, pin, asking);
        check.due("pay in round " + round, got, typed(twin, shown, given, number, pin, asking));
        check.due("answer", Check.answer(x), Check.answer(twin));
        check.due("stage()", x.stage(), twin.stage());
        check.due("counter()", x.counter(), twin.counter());
        check.due("tries()", x.tries(), twin.tries());
      }
    }
  }

  private static int typed(PurseCard x, long shown, long given, int number, int pin, boolean asking) {
    Check.send(x, Check.select(NAME));
    int status = Check.send(x, Check.ready(given));
    if (status != Check.FINE) {
      return -status;
    }
    int[] list = Check.bytes(Check.answer(x));
    for (int at = 4; at < list.length; at += 4) {
      for (int record = list[at + 1]; record <= list[at + 2]; record++) {
        Check.send(x, "00B2" + Check.number(record, 1) + Check.number(list[at] + 4, 1));
      }
    }
    boolean proven = false;
    if (pin >= 0) {
      status = Check.send(x, Check.prove(String.format("%04d", pin)));
      proven = status == Check.FINE;
      if (!proven && status / 16 != 0x63C) {
        return -status;
      }
    }
    Check.send(x, Check.seal(asking ? 0x80 : 0x40, given, number));
    int what = x.answer(x.find(0x9F27));
    if (what != 0x80) {
      return what == 0x40 ? 1 : 0;
    }
    boolean agreed = x.genuine(shown, number, proven);
    Check.send(x, Check.seal(agreed ? 0x40 : 0, given, number, agreed ? "3030" : "3035"));
    return x.answer(x.find(0x9F27)) == 0x40 ? 2 : 0;
  }
}
