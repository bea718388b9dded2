/** The edges of PROVE, and of promises 10 and 17: the code and the tries. */
public final class ProveEdgesTest {
  private static final String PROVE = Check.prove(Cards.PIN);
  private static final String WRONG = Check.prove("1235");

  public static void main(String[] args) {
    Edges.run(ProveEdgesTest.class);
  }

  @Says(in = "Terms, PROVE", value = "PROVE 00 20, P1 00, P2 80")
  static void proveParameters(Check check) {
    for (int p = 0; p < 256; p++) {
      String b = Check.number(p, 1);
      String data = PROVE.substring(8);
      check.status("P1 " + b, Check.send(Cards.at(2), "0020" + b + "80" + data), p == 0 ? 0x9000 : 0x6A86);
      check.status("P2 " + b, Check.send(Cards.at(2), "002000" + b + data), p == 0x80 ? 0x9000 : 0x6A86);
    }
  }

  @Says(in = "Terms, PROVE", value = "OPEN; 8 bytes")
  static void proveSizes(Check check) {
    check.sends(Cards.at(2), "00200080", 0x6700, "");
    check.sends(Cards.at(2), "0020008007241234FFFFFFFF", 0x6700, "");
    check.sends(Cards.at(2), "0020008008241234FFFFFFFFFF", 0x9000, "");
    check.sends(Cards.at(2), "0020008009241234FFFFFFFFFFFF", 0x6700, "");
  }

  @Says(in = "Terms, PROVE", value = "6983 if there are no tries left")
  static void proveWithTheLastTryAndWithNone(Check check) {
    check.sends(Cards.withTries(1), PROVE, 0x9000, "");
    check.sends(Cards.withTries(0), PROVE, 0x6983, "");
    check.sends(Cards.withTries(0), WRONG, 0x6983, "");
    PurseCard x = Cards.withTries(0);
    for (int i = 0; i < 5; i++) {
      check.sends(x, WRONG, 0x6983, "");
      check.due("tries()", x.tries(), 0);
    }
  }

  @Says(in = "Terms, PROVE", value = "6983 if there are no tries left; 6A80 if")
  static void noTriesComesBeforeTheContents(Check check) {
    check.sends(Cards.withTries(0), Check.prove("123A"), 0x6983, "");
    check.sends(Cards.withTries(0), "0020008008" + "00".repeat(8), 0x6983, "");
    check.sends(Cards.withTries(1), Check.prove("123A"), 0x6A80, "");
  }

  @Says(in = "Terms, PROVE", value = "6A80 if they are not 24, two bytes, five bytes FF")
  static void everyFirstByte(Check check) {
    for (int b = 0; b < 256; b++) {
      String command = "0020008008" + Check.number(b, 1) + "1234FFFFFFFFFF";
      check.status(command, Check.send(Cards.at(2), command), b == 0x24 ? 0x9000 : 0x6A80);
    }
  }

  @Says(in = "Terms, PROVE", value = "five bytes FF")
  static void eachOfTheFiveBytes(Check check) {
    for (int place = 0; place < 5; place++) {
      for (int b : new int[] {0x00, 0x0F, 0x7F, 0xF0, 0xFE}) {
        String last = "FF".repeat(place) + Check.number(b, 1) + "FF".repeat(4 - place);
        PurseCard x = Cards.at(2);
        check.sends(x, "0020008008241234" + last, 0x6A80, "");
        check.due("tries()", x.tries(), 3);
      }
    }
  }

  @Says(in = "Terms, PROVE", value = "one of the four halves of the two bytes is above 9")
  static void everyHalf(Check check) {
    for (int place = 0; place < 4; place++) {
      for (int half = 0; half < 16; half++) {
        StringBuilder digits = new StringBuilder(Cards.PIN);
        digits.setCharAt(place, "0123456789ABCDEF".charAt(half));
        PurseCard x = Cards.at(2);
        int status = half > 9 ? 0x6A80 : digits.toString().equals(Cards.PIN) ? 0x9000 : 0x63C2;
        check.sends(x, Check.prove(digits.toString()), status, "");
        check.due("tries()", x.tries(), status == 0x63C2 ? 2 : 3);
      }
    }
  }

  /** 1 2 3 A would be 1240 if a half above 9 went over into the digit before it. */
  @Says(in = "Terms, PROVE", value = "one of the four halves of the two bytes is above 9")
  static void halvesThatWouldAddUpToTheCode(Check check) {
    PurseCard x = Cards.at(2);
    x.code(1240);
    check.sends(x, Check.prove("123A"), 0x6A80, "");
    x.code(1300);
    check.sends(x, Check.prove("12A0"), 0x6A80, "");
    x.code(2034);
    check.sends(x, Check.prove("1A34"), 0x6A80, "");
    check.due("tries()", x.tries(), 3);
  }

  @Says(in = "Terms, PROVE", value = "If the halves are the code's digits, the tries are 3 again and the code is"
      + " proven")
  static void rightWithEveryNumberOfTries(Check check) {
    for (int left = 1; left <= 3; left++) {
      PurseCard x = Cards.withTries(left);
      check.sends(x, PROVE, 0x9000, "");
      check.due("tries()", x.tries(), 3);
      check.sends(x, Check.seal(0x40, Cards.AMOUNT, 5), 0x9000,
          Check.sealed(Cards.KEY, Cards.AMOUNT, 5, 1, 0x40, true));
    }
  }

  @Says(in = "Terms, PROVE", value = "otherwise one try less is left, it is not proven, and the status is 63C0 + the"
      + " tries left")
  static void wrongWithEveryNumberOfTries(Check check) {
    for (int left = 3; left >= 1; left--) {
      PurseCard x = Cards.withTries(left);
      check.sends(x, WRONG, 0x63C0 + left - 1, "");
      check.due("tries()", x.tries(), left - 1);
    }
  }

  @Says(in = "Terms, PROVE", value = "it is not proven")
  static void wrongTakesTheProofBack(Check check) {
    PurseCard x = Cards.proven();
    check.sends(x, WRONG, 0x63C2, "");
    check.sends(x, Check.seal(0x40, Cards.AMOUNT, 5), 0x9000,
        Check.sealed(Cards.KEY, Cards.AMOUNT, 5, 1, 0x80, false));
    PurseCard y = Cards.proven();
    for (int i = 0; i < 3; i++) {
      Check.send(y, WRONG);
    }
    check.sends(y, PROVE, 0x6983, "");
    check.sends(y, Check.seal(0x40, Cards.AMOUNT, 5), 0x9000,
        Check.sealed(Cards.KEY, Cards.AMOUNT, 5, 1, 0x80, false));
  }

  @Says(in = "Terms, PROVE", value = "If the halves are the code's digits")
  static void everyDigitCounts(Check check) {
    String[] others = {"0234", "2234", "1134", "1334", "1224", "1244", "1233", "1235", "4321", "2134", "1243"};
    for (String other : others) {
      check.sends(Cards.at(2), Check.prove(other), 0x63C2, "");
    }
  }

  @Says(in = "Promise 10", value = "refused with false if v is not 0 .. 9999")
  static void codeAtBothEnds(Check check) {
    PurseCard x = Cards.withTries(1);
    check.due("code(-1)", x.code(-1), false);
    check.due("code(10000)", x.code(10000), false);
    check.due("code(least)", x.code(Integer.MIN_VALUE), false);
    check.due("code(most)", x.code(Integer.MAX_VALUE), false);
    check.due("tries()", x.tries(), 1);
    check.sends(x, PROVE, 0x9000, "");
    check.due("code(0)", x.code(0), true);
    check.sends(x, Check.prove("0000"), 0x9000, "");
    check.due("code(9999)", x.code(9999), true);
    check.sends(x, Check.prove("9999"), 0x9000, "");
  }

  @Says(in = "Promise 10", value = "The code becomes the four digits of v (with zeros in front)")
  static void codesWithZerosInFront(Check check) {
    int[] codes = {0, 1, 9, 10, 99, 100, 999, 1000, 9999};
    String[] digits = {"0000", "0001", "0009", "0010", "0099", "0100", "0999", "1000", "9999"};
    for (int i = 0; i < codes.length; i++) {
      for (int j = 0; j < codes.length; j++) {
        PurseCard x = Cards.at(2);
        x.code(codes[i]);
        check.sends(x, Check.prove(digits[j]), i == j ? 0x9000 : 0x63C2, "");
      }
    }
    PurseCard x = Cards.at(2);
    x.code(7);
    check.sends(x, Check.prove("7000"), 0x63C2, "");
  }

  @Says(in = "Promise 10", value = "and the tries 3")
  static void codeGivesTriesBack(Check check) {
    for (int left = 0; left <= 3; left++) {
      PurseCard x = Cards.withTries(left);
      check.due("code", x.code(Cards.CODE), true);
      check.due("tries() behind " + left, x.tries(), 3);
      check.sends(x, PROVE, 0x9000, "");
    }
  }

  @Says(in = "Promise 17", value = "The tries that are left.")
  static void triesFromFullToNone(Check check) {
    PurseCard x = Cards.at(2);
    check.due("tries()", x.tries(), 3);
    for (int left = 2; left >= 0; left--) {
      Check.send(x, WRONG);
      check.due("tries()", x.tries(), left);
    }
    Check.send(x, WRONG);
    check.due("never below 0", x.tries(), 0);
  }

  @Says(in = "Promise 17", value = "The tries that are left.")
  static void triesStayFromPaymentToPayment(Check check) {
    PurseCard x = Cards.withTries(1);
    Cards.open(x);
    check.due("tries() behind READY", x.tries(), 1);
    x.pay(1, 1, 1, -1, false);
    check.due("tries() behind pay without a pin", x.tries(), 1);
    x.pay(1, 1, 1, 1, false);
    check.due("tries() behind a wrong pin", x.tries(), 0);
  }
}
