/** The edges of the row and the answer: promises 1, 2, 3, 5 and 6, and how long an object is used. */
public final class RowEdgesTest {
  private static final int LEAST = Integer.MIN_VALUE;
  private static final int MOST = Integer.MAX_VALUE;

  public static void main(String[] args) {
    Edges.run(RowEdgesTest.class);
  }

  @Says(in = "What it is", value = "An object is used for at most 512 calls after it has been made")
  static void the512thCall(Check check) {
    PurseCard x = new PurseCard(Cards.NAME);
    for (int i = 1; i <= 510; i++) {
      check.due("payment " + i, x.pay(i, i, i, 0, false), i % 3 == 0 ? 2 : 1);
    }
    check.due("call 511, counter()", x.counter(), 510);
    check.due("call 512, genuine", x.genuine(510, 510, true), true);
  }

  @Says(in = "What it is", value = "An object is used for at most 512 calls after it has been made")
  static void the512thPut(Check check) {
    PurseCard x = new PurseCard(Cards.NAME);
    for (int i = 1; i <= 511; i++) {
      check.due("call " + i, x.put(255), i <= 40);
    }
    check.due("call 512, wipe()", x.wipe(), 40);
  }

  @Says(in = "Promise 1", value = "the lowest three bytes of name, as a number of 3 bytes")
  static void namesOfThreeBytes(Check check) {
    named(check, 0, "000000");
    named(check, 1, "000001");
    named(check, 0xFF, "0000FF");
    named(check, 0x100, "000100");
    named(check, 0xFFFF, "00FFFF");
    named(check, 0x10000, "010000");
    named(check, 0xFFFFFF, "FFFFFF");
  }

  @Says(in = "Promise 1", value = "the lowest three bytes of name")
  static void namesBeyondThreeBytes(Check check) {
    named(check, 0x1000000, "000000");
    named(check, 0x1000001, "000001");
    named(check, MOST, "FFFFFF");
    named(check, LEAST, "000000");
    named(check, -1, "FFFFFF");
    named(check, -2, "FFFFFE");
    named(check, -0x1000000, "000000");
  }

  private static void named(Check check, int name, String ending) {
    check.sends(new PurseCard(name), "00A4040007A0000000" + ending, 0x9000,
        "6F178407A0000000" + ending + "A50C5004434152449F38039F0206");
  }

  @Says(in = "Promise 1", value = "no records")
  static void newHasNoRecords(Check check) {
    PurseCard x = new PurseCard(Cards.NAME);
    Cards.open(x);
    check.due("READY names no file", Check.answer(x), "80021800");
    for (int file = 1; file <= 4; file++) {
      check.sends(x, Cards.read(file, 1), 0x6A82, "");
    }
  }

  @Says(in = "Promise 1", value = "an empty row")
  static void newHasAnEmptyRow(Check check) {
    check.due("wipe()", new PurseCard(1).wipe(), 0);
    check.due("keep(1)", new PurseCard(1).keep(1), -1);
    check.status("send()", new PurseCard(1).send(), 0x6700);
    check.due("seal(0)", new PurseCard(1).seal(0), Check.bytes(Check.mac(Check.NO_KEY, ""))[0]);
  }

  @Says(in = "Promise 1", value = "an empty answer")
  static void newHasAnEmptyAnswer(Check check) {
    PurseCard x = new PurseCard(1);
    check.due("answered()", x.answered(), 0);
    check.due("answer(0)", x.answer(0), -1);
    check.due("find(0)", x.find(0), -1);
    check.due("find(0x77)", x.find(0x77), -1);
    check.due("genuine", x.genuine(0, 0, false), false);
  }

  @Says(in = "Terms, THE CARD", value = "the key (16 bytes 00 at first)")
  static void newKey(Check check) {
    PurseCard x = new PurseCard(1);
    Check.type(x, "00112233445566778899AABBCCDDEEFF01");
    int[] want = Check.bytes(Check.mac(Check.NO_KEY, "00112233445566778899AABBCCDDEEFF01"));
    for (int i = 0; i < 16; i++) {
      check.due("seal(" + i + ")", x.seal(i), want[i]);
    }
  }

  @Says(in = "Terms, THE CARD", value = "a CODE of four digits (0000)")
  static void newCode(Check check) {
    PurseCard x = new PurseCard(Cards.NAME);
    Cards.open(x);
    check.sends(x, Check.prove("0000"), 0x9000, "");
    check.sends(x, Check.prove("0001"), 0x63C2, "");
  }

  @Says(in = "Terms, THE CARD", value = "a COUNTER 0 .. 65535 (0), TRIES (3), a count ALONE (0), and a STAGE: 0 at"
      + " first")
  static void newCounts(Check check) {
    PurseCard x = new PurseCard(Cards.NAME);
    check.due("counter()", x.counter(), 0);
    check.due("tries()", x.tries(), 3);
    check.due("stage()", x.stage(), 0);
    check.due("the first alone", x.pay(1, 1, 1, 0, false), 1);
    check.due("the second alone", x.pay(1, 1, 1, 0, false), 1);
    check.due("the third not", x.pay(1, 1, 1, 0, false), 2);
  }

  @Says(in = "Promise 2", value = "refused with false if b is not 0 .. 255")
  static void putAtBothEnds(Check check) {
    PurseCard x = new PurseCard(1);
    check.due("put(0)", x.put(0), true);
    check.due("put(255)", x.put(255), true);
    int[] row = Check.bytes(Check.mac(Check.NO_KEY, "00FF"));
    check.due("both are typed", x.seal(0), row[0]);
    check.due("put(-1)", x.put(-1), false);
    check.due("put(256)", x.put(256), false);
    check.due("put(least)", x.put(LEAST), false);
    check.due("put(most)", x.put(MOST), false);
    check.due("the row stays", x.seal(0), row[0]);
    check.due("wipe()", x.wipe(), 2);
  }

  @Says(in = "Promise 2", value = "refused with false if b is not 0 .. 255")
  static void putOfEveryByte(Check check) {
    for (int b = 0; b < 256; b++) {
      PurseCard x = Cards.reading(Check.number(b, 1));
      check.due("the byte " + b, x.answer(2), b);
    }
  }

  @Says(in = "Promise 2", value = "or the row has 40")
  static void putIntoAFullRow(Check check) {
    PurseCard x = new PurseCard(1);
    Check.type(x, "5A".repeat(39));
    check.due("the 40th", x.put(0x5A), true);
    int first = x.seal(0);
    check.due("the 41st", x.put(0x5A), false);
    check.due("once more", x.put(0), false);
    check.due("the row stays", x.seal(0), first);
    check.due("the row stays", first, Check.bytes(Check.mac(Check.NO_KEY, "5A".repeat(40)))[0]);
    check.due("wipe()", x.wipe(), 40);
  }

  @Says(in = "Promise 2", value = "or the row has 40")
  static void putBehindAFullRow(Check check) {
    PurseCard x = new PurseCard(1);
    Check.type(x, "5A".repeat(40));
    x.wipe();
    check.due("behind wipe", x.put(1), true);
    x.wipe();
    Check.type(x, "5A".repeat(40));
    x.send();
    check.due("behind send", x.put(1), true);
    x.wipe();
    Check.type(x, "5A".repeat(40));
    x.pay(1, 1, 1, 0, false);
    check.due("behind pay", x.put(1), true);
    check.due("wipe()", x.wipe(), 1);
    Check.type(x, "5A".repeat(40));
    check.due("as many as before", x.wipe(), 40);
  }

  @Says(in = "Promise 3", value = "Answers how many bytes it had.")
  static void wipeOfEverySize(Check check) {
    for (int size = 0; size <= 40; size++) {
      PurseCard x = new PurseCard(1);
      Check.type(x, "00".repeat(size));
      check.due("wipe() of " + size, x.wipe(), size);
    }
  }

  @Says(in = "Promise 3", value = "The row becomes empty.")
  static void wipeOfAnEmptyRow(Check check) {
    PurseCard x = new PurseCard(1);
    Check.type(x, "AA".repeat(40));
    x.wipe();
    check.due("wipe() again", x.wipe(), 0);
    check.due("nothing to keep", x.keep(1), -1);
    check.due("the seal of nothing", x.seal(0), Check.bytes(Check.mac(Check.NO_KEY, ""))[0]);
    check.status("nothing to send", x.send(), 0x6700);
  }

  @Says(in = "Promise 5", value = "How many bytes the answer has.")
  static void answeredNoneAndMost(Check check) {
    check.due("new", new PurseCard(1).answered(), 0);
    check.due("a record of 1 byte", Cards.reading("00").answered(), 3);
    check.due("a record of 30 bytes", Cards.reading("00".repeat(30)).answered(), 32);
  }

  @Says(in = "Promise 5", value = "How many bytes the answer has.")
  static void answeredBehindACommandWithoutBytes(Check check) {
    PurseCard x = Cards.at(2);
    check.due("READY", x.answered(), 8);
    Cards.takes(x, Check.prove(Cards.PIN));
    check.due("PROVE that is fine", x.answered(), 0);
    Cards.takes(x, "80CA9F17");
    check.due("GET", x.answered(), 4);
    Check.send(x, Check.prove("0000"));
    check.due("PROVE that is not", x.answered(), 0);
  }

  @Says(in = "Promise 6", value = "NONE if there is none.")
  static void answerAtBothEnds(Check check) {
    PurseCard x = Cards.reading("00".repeat(29) + "FF");
    check.due("answer(-1)", x.answer(-1), -1);
    check.due("answer(0)", x.answer(0), 0x70);
    check.due("answer(30)", x.answer(30), 0);
    check.due("answer(31)", x.answer(31), 255);
    check.due("answer(32)", x.answer(32), -1);
    check.due("answer(33)", x.answer(33), -1);
    check.due("answer(least)", x.answer(LEAST), -1);
    check.due("answer(most)", x.answer(MOST), -1);
  }

  @Says(in = "Promise 6", value = "NONE if there is none.")
  static void answerBehindALongerOne(Check check) {
    PurseCard x = Cards.reading("11".repeat(30));
    Cards.takes(x, "80CA9F17");
    check.due("answer(3)", x.answer(3), 3);
    for (int i = 4; i < 33; i++) {
      check.due("answer(" + i + ")", x.answer(i), -1);
    }
    x.send();
    for (int i = 0; i < 33; i++) {
      check.due("answer(" + i + ") of none", x.answer(i), -1);
    }
  }
}
