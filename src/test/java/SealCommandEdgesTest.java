/** The edges of SEAL, and of promise 15: what is given, what is sealed, ALONE and the stages. */
public final class SealCommandEdgesTest {
  private static final long AMOUNT = Cards.AMOUNT;
  private static final int NUMBER = Cards.NUMBER;

  public static void main(String[] args) {
    Edges.run(SealCommandEdgesTest.class);
  }

  @Says(in = "Terms, SEAL", value = "SEAL 80 AE, P1 00, 40 or 80, P2 00")
  static void sealParameters(Check check) {
    for (int p = 0; p < 256; p++) {
      String b = Check.number(p, 1);
      String data = Check.seal(0, AMOUNT, NUMBER).substring(8);
      int status = p == 0 || p == 0x40 || p == 0x80 ? 0x9000 : 0x6A86;
      check.status("P1 " + b, Check.send(Cards.at(2), "80AE" + b + "00" + data), status);
      check.status("P2 " + b, Check.send(Cards.at(2), "80AE40" + b + data), p == 0 ? 0x9000 : 0x6A86);
    }
  }

  @Says(in = "Terms, SEAL", value = "10 bytes when OPEN")
  static void sizesWhenOpen(Check check) {
    for (int size = 0; size <= 35; size++) {
      check.status(size + " bytes", Check.send(Cards.at(2), ofSize(size)), size == 10 ? 0x9000 : 0x6700);
    }
  }

  @Says(in = "Terms, SEAL", value = "12 when SEALED")
  static void sizesWhenSealed(Check check) {
    for (int size = 0; size <= 35; size++) {
      check.status(size + " bytes", Check.send(Cards.at(3), ofSize(size)), size == 12 ? 0x9000 : 0x6700);
    }
  }

  private static String ofSize(int size) {
    return "80AE4000" + (size == 0 ? "" : Check.number(size, 1) + "00".repeat(size));
  }

  @Says(in = "Terms, SEAL", value = "00 if the amount is not that of READY")
  static void everyByteOfTheAmount(Check check) {
    for (int bit = 0; bit < 48; bit++) {
      long other = AMOUNT ^ (1L << bit);
      seals(check, Cards.proven(), Check.seal(0x40, other, NUMBER), other, 0x00, true);
      seals(check, Cards.proven(), Check.seal(0x80, other, NUMBER), other, 0x00, true);
      seals(check, Cards.at(3), Check.seal(0x40, other, NUMBER, "3030"), other, 0x00, false);
    }
  }

  @Says(in = "Terms, SEAL", value = "00 if the amount is not that of READY")
  static void amountsAtBothEnds(Check check) {
    long[] ends = {0, 1, Check.MOST - 1, Check.MOST};
    for (long ready : ends) {
      for (long asked : ends) {
        PurseCard x = Cards.at(1);
        Cards.takes(x, Check.ready(ready));
        seals(check, x, Check.seal(0x80, asked, NUMBER), asked, ready == asked ? 0x80 : 0x00, false);
      }
    }
  }

  @Says(in = "Terms, SEAL", value = "or P1 is 00")
  static void declinedWhenAskedFor(Check check) {
    seals(check, Cards.at(2), Check.seal(0x00, AMOUNT, NUMBER), AMOUNT, 0x00, false);
    seals(check, Cards.proven(), Check.seal(0x00, AMOUNT, NUMBER), AMOUNT, 0x00, true);
    seals(check, Cards.at(3), Check.seal(0x00, AMOUNT, NUMBER, "3030"), AMOUNT, 0x00, false);
    seals(check, Cards.provenAndSealed(), Check.seal(0x00, AMOUNT, NUMBER, "3030"), AMOUNT, 0x00, true);
  }

  @Says(in = "Terms, SEAL", value = "else, OPEN: 80 if P1 is 80, or the code is not proven")
  static void asksWhenOpen(Check check) {
    seals(check, Cards.at(2), Check.seal(0x40, AMOUNT, NUMBER), AMOUNT, 0x80, false);
    seals(check, Cards.at(2), Check.seal(0x80, AMOUNT, NUMBER), AMOUNT, 0x80, false);
    seals(check, Cards.proven(), Check.seal(0x80, AMOUNT, NUMBER), AMOUNT, 0x80, true);
    seals(check, Cards.proven(), Check.seal(0x40, AMOUNT, NUMBER), AMOUNT, 0x40, true);
  }

  @Says(in = "Terms, SEAL", value = "or ALONE is 2 or more")
  static void aloneAtItsEdge(Check check) {
    int[] want = {0x40, 0x40, 0x80};
    for (int alone = 0; alone <= 2; alone++) {
      PurseCard x = Cards.alone(alone);
      Cards.takes(x, Check.seal(0x40, AMOUNT, NUMBER));
      check.due("given behind " + alone + " alone", Cards.given(x), want[alone]);
    }
  }

  @Says(in = "Terms, SEAL", value = "SEALED: 40 if P1 is 40 and the 2 bytes are 30 30, otherwise 00")
  static void everyVerdict(Check check) {
    for (int b = 0; b < 256; b++) {
      int given = b == 0x30 ? 0x40 : 0x00;
      seals(check, Cards.at(3), Check.seal(0x40, AMOUNT, NUMBER, Check.number(b, 1) + "30"), AMOUNT, given, false);
      seals(check, Cards.at(3), Check.seal(0x40, AMOUNT, NUMBER, "30" + Check.number(b, 1)), AMOUNT, given, false);
    }
    seals(check, Cards.at(3), Check.seal(0x40, AMOUNT, NUMBER, "3035"), AMOUNT, 0x00, false);
  }

  @Says(in = "Terms, SEAL", value = "SEALED: 40 if P1 is 40")
  static void askingOnceMore(Check check) {
    seals(check, Cards.at(3), Check.seal(0x80, AMOUNT, NUMBER, "3030"), AMOUNT, 0x00, false);
    seals(check, Cards.provenAndSealed(), Check.seal(0x80, AMOUNT, NUMBER, "3030"), AMOUNT, 0x00, true);
    seals(check, Cards.provenAndSealed(), Check.seal(0x40, AMOUNT, NUMBER, "3030"), AMOUNT, 0x40, true);
  }

  @Says(in = "Terms, SEAL", value = "Then the stage is SEALED if 80 is given, otherwise DONE")
  static void stagesBehindSeal(Check check) {
    stageBehind(check, Cards.at(2), Check.seal(0x80, AMOUNT, NUMBER), 3);
    stageBehind(check, Cards.at(2), Check.seal(0x40, AMOUNT, NUMBER), 3);
    stageBehind(check, Cards.at(2), Check.seal(0x00, AMOUNT, NUMBER), 4);
    stageBehind(check, Cards.at(2), Check.seal(0x80, AMOUNT + 1, NUMBER), 4);
    stageBehind(check, Cards.proven(), Check.seal(0x40, AMOUNT, NUMBER), 4);
    stageBehind(check, Cards.at(3), Check.seal(0x40, AMOUNT, NUMBER, "3030"), 4);
    stageBehind(check, Cards.at(3), Check.seal(0x40, AMOUNT, NUMBER, "3035"), 4);
    stageBehind(check, Cards.at(3), Check.seal(0x80, AMOUNT, NUMBER, "3030"), 4);
    stageBehind(check, Cards.at(3), Check.seal(0x00, AMOUNT, NUMBER, "3035"), 4);
  }

  private static void stageBehind(Check check, PurseCard x, String command, int stage) {
    Cards.takes(x, command);
    check.due("stage() behind " + command, x.stage(), stage);
  }

  @Says(in = "Terms, SEAL", value = "when 40 is given, ALONE becomes 0 if the stage was SEALED")
  static void aloneFromNoughtAgain(Check check) {
    for (int alone = 0; alone <= 2; alone++) {
      PurseCard x = Cards.alone(alone);
      Cards.takes(x, Check.seal(0x80, AMOUNT, NUMBER));
      Cards.takes(x, Check.seal(0x40, AMOUNT, NUMBER, "3030"));
      check.due("given behind " + alone + " alone", Cards.given(x), 0x40);
      givesAlone(check, x, 2);
    }
  }

  @Says(in = "Terms, SEAL", value = "and grows by 1 if it was OPEN")
  static void aloneGrowsByOne(Check check) {
    for (int alone = 0; alone <= 1; alone++) {
      PurseCard x = Cards.alone(alone);
      Cards.takes(x, Check.seal(0x40, AMOUNT, NUMBER));
      givesAlone(check, x, 2 - alone - 1);
    }
  }

  @Says(in = "Terms, SEAL", value = "when 40 is given")
  static void aloneStaysWhenAnotherIsGiven(Check check) {
    for (int alone = 0; alone <= 2; alone++) {
      PurseCard declined = Cards.alone(alone);
      Cards.takes(declined, Check.seal(0x00, AMOUNT, NUMBER));
      givesAlone(check, declined, 2 - alone);
      PurseCard otherAmount = Cards.alone(alone);
      Cards.takes(otherAmount, Check.seal(0x40, AMOUNT + 1, NUMBER));
      givesAlone(check, otherAmount, 2 - alone);
      PurseCard asked = Cards.alone(alone);
      Cards.takes(asked, Check.seal(0x80, AMOUNT, NUMBER));
      givesAlone(check, asked, 2 - alone);
      PurseCard refused = Cards.alone(alone);
      Cards.takes(refused, Check.seal(0x80, AMOUNT, NUMBER));
      Cards.takes(refused, Check.seal(0x40, AMOUNT, NUMBER, "3035"));
      givesAlone(check, refused, 2 - alone);
    }
  }

  /** So many more payments are given alone, and the next one is not. */
  private static void givesAlone(Check check, PurseCard x, int more) {
    for (int i = 0; i <= more; i++) {
      Cards.open(x);
      Cards.takes(x, Check.prove(Cards.PIN));
      Cards.takes(x, Check.seal(0x40, AMOUNT, NUMBER));
      check.due("given, " + (more - i) + " alone to come", Cards.given(x), i < more ? 0x40 : 0x80);
    }
  }

  @Says(in = "Terms, SEAL", value = "the first 8 bytes of the seal of: amount, number, counter as 2 bytes, given, 01 if"
      + " the code is proven or 00")
  static void numbersAndCountersAtBothEnds(Check check) {
    int[] numbers = {0, 1, 255, 256, Integer.MAX_VALUE, Integer.MIN_VALUE, -1};
    for (int number : numbers) {
      for (int counter : new int[] {1, 255, 256, 65535}) {
        PurseCard x = Cards.proven();
        x.advance(counter);
        check.sends(x, Check.seal(0x40, AMOUNT, number), 0x9000,
            Check.sealed(Cards.KEY, AMOUNT, number, counter, 0x40, true));
      }
    }
  }

  @Says(in = "Promise 15", value = "The stage.")
  static void everyStage(Check check) {
    for (int stage = 0; stage <= 4; stage++) {
      check.due("stage()", Cards.at(stage).stage(), stage);
    }
  }

  @Says(in = "Promise 15", value = "The stage.")
  static void nothingFollowsDone(Check check) {
    PurseCard x = Cards.at(4);
    check.sends(x, Check.seal(0x40, AMOUNT, NUMBER), 0x6985, "");
    check.sends(x, Check.seal(0x40, AMOUNT, NUMBER, "3030"), 0x6985, "");
    check.sends(x, Check.prove(Cards.PIN), 0x6985, "");
    check.sends(x, Check.ready(AMOUNT), 0x6985, "");
    check.due("stage()", x.stage(), 4);
    check.sends(x, Check.select(Cards.NAME), 0x9000, Cards.CHOSEN);
    check.due("stage() behind SELECT", x.stage(), 1);
  }

  private static void seals(Check check, PurseCard x, String command, long amount, int given, boolean proven) {
    check.sends(x, command, 0x9000, Check.sealed(Cards.KEY, amount, NUMBER, 1, given, proven));
  }
}
