/** Promises 4 and 15: what SEAL gives, seals and leaves, and the stages of the card. */
public final class SealCommandTest {
  private static final String KEY = "0123456789ABCDEFFEDCBA9876543210";

  public static void main(String[] args) {
    Check check = new Check();
    whenOpen(check);
    whenSealed(check);
    alone(check);
    amounts(check);
    changesBetween(check);
    stages(check);
    check.end();
  }

  private static PurseCard open(long amount, boolean proven) {
    PurseCard x = new PurseCard(0);
    x.key(0x0123456789ABCDEFL, 0xFEDCBA9876543210L);
    open(x, amount, proven);
    return x;
  }

  private static void open(PurseCard x, long amount, boolean proven) {
    Check.send(x, Check.select(0));
    Check.send(x, Check.ready(amount));
    if (proven) {
      Check.send(x, Check.prove("0000"));
    }
  }

  private static void whenOpen(Check check) {
    for (int wanted : new int[] {0, 0x40, 0x80}) {
      for (boolean proven : new boolean[] {false, true}) {
        for (boolean same : new boolean[] {false, true}) {
          PurseCard x = open(100, proven);
          long amount = same ? 100 : 101;
          int given = !same || wanted == 0 ? 0 : wanted == 0x40 && proven ? 0x40 : 0x80;
          check.sends(x, Check.seal(wanted, amount, -5), 0x9000, Check.sealed(KEY, amount, -5, 1, given, proven));
          check.due("stage()", x.stage(), given == 0x80 ? 3 : 4);
        }
      }
    }
  }

  private static void whenSealed(Check check) {
    String[] verdicts = {"3030", "3035", "3130", "0000", "FFFF"};
    for (int wanted : new int[] {0, 0x40, 0x80}) {
      for (String verdict : verdicts) {
        for (int how = 0; how < 4; how++) {
          boolean proven = how % 2 == 1;
          long amount = how < 2 ? 100 : 99;
          PurseCard x = open(100, proven);
          Check.send(x, Check.seal(0x80, 100, 6));
          int given = wanted == 0x40 && verdict.equals("3030") && amount == 100 ? 0x40 : 0;
          check.sends(x, Check.seal(wanted, amount, 7, verdict), 0x9000,
              Check.sealed(KEY, amount, 7, 1, given, proven));
          check.due("stage()", x.stage(), 4);
          check.sends(x, Check.seal(wanted, amount, 7), 0x6985, "");
          check.sends(x, Check.seal(wanted, amount, 7, verdict), 0x6985, "");
        }
      }
    }
    PurseCard x = open(100, true);
    Check.send(x, Check.seal(0x80, 100, 6));
    check.sends(x, Check.seal(0x40, 100, 6), 0x6700, "");
    check.due("stage()", x.stage(), 3);
    PurseCard y = open(100, true);
    check.sends(y, Check.seal(0x40, 100, 6, "3030"), 0x6700, "");
    check.due("stage()", y.stage(), 2);
  }

  private static int given(PurseCard x) {
    return x.answer(x.find(0x9F27));
  }

  private static void alone(Check check) {
    PurseCard x = new PurseCard(0);
    for (int n = 0; n < 2; n++) {
      check.due("alone " + n, x.pay(1, 1, n, 0, false), 1);
    }
    open(x, 1, true);
    // asked for, declined and broken off payments leave ALONE as it is
    Check.send(x, Check.seal(0x00, 1, 1));
    check.due("declined", given(x), 0);
    open(x, 1, true);
    Check.send(x, Check.seal(0x40, 1, 1));
    check.due("the third alone", given(x), 0x80);
    Check.send(x, Check.seal(0x40, 1, 1, "3035"));
    check.due("refused by the issuer", given(x), 0);
    open(x, 1, true);
    Check.send(x, Check.seal(0x40, 1, 1));
    check.due("still", given(x), 0x80);
    Check.send(x, Check.seal(0x40, 1, 1, "3030"));
    check.due("agreed by the issuer", given(x), 0x40);
    for (int n = 0; n < 3; n++) {
      open(x, 1, true);
      Check.send(x, Check.seal(0x40, 1, 1));
      check.due("alone again " + n, given(x), n < 2 ? 0x40 : 0x80);
    }
    // one alone, one by the issuer: counted from 0 again
    PurseCard y = open(1, true);
    Check.send(y, Check.seal(0x40, 1, 1));
    open(y, 1, false);
    Check.send(y, Check.seal(0x80, 1, 1));
    Check.send(y, Check.seal(0x40, 1, 1, "3030"));
    for (int n = 0; n < 3; n++) {
      open(y, 1, true);
      Check.send(y, Check.seal(0x40, 1, 1));
      check.due("behind the issuer " + n, given(y), n < 2 ? 0x40 : 0x80);
    }
  }

  private static void amounts(Check check) {
    long[] some = {0, 1, 255, 256, Check.MOST, Check.MOST - 1, 1L << 47, 0x010203040506L};
    for (long ready : some) {
      for (long asked : some) {
        PurseCard x = open(ready, true);
        check.sends(x, Check.seal(0x40, asked, Integer.MIN_VALUE), 0x9000,
            Check.sealed(KEY, asked, Integer.MIN_VALUE, 1, ready == asked ? 0x40 : 0, true));
      }
    }
  }

  private static void changesBetween(Check check) {
    PurseCard x = open(1, true);
    x.advance(500);
    check.sends(x, Check.seal(0x80, 1, 1), 0x9000, Check.sealed(KEY, 1, 1, 500, 0x80, true));
    x.advance(65535);
    x.code(5555);
    check.sends(x, Check.seal(0x40, 1, 1, "3030"), 0x9000, Check.sealed(KEY, 1, 1, 65535, 0x40, true));
  }

  private static void stages(Check check) {
    for (int stage = 0; stage <= 4; stage++) {
      check.due("stage()", Cards.at(stage).stage(), stage);
      PurseCard x = Cards.at(stage);
      Check.send(x, Check.select(0x010203));
      check.due("SELECT from stage " + stage, x.stage(), 1);
    }
  }
}
