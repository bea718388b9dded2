/** The edges of promises 8, 11 and 16: keep, advance and counter. */
public final class KeepEdgesTest {
  public static void main(String[] args) {
    Edges.run(KeepEdgesTest.class);
  }

  @Says(in = "Promise 8", value = "NONE (refused) if there is no such file")
  static void filesAtBothEnds(Check check) {
    PurseCard x = new PurseCard(Cards.NAME);
    Check.type(x, "5A01");
    for (int file : new int[] {0, -1, 5, 6, 256, 257, Integer.MIN_VALUE, Integer.MAX_VALUE}) {
      check.due("keep(" + file + ")", x.keep(file), -1);
    }
    check.due("keep(1)", x.keep(1), 1);
    Check.type(x, "5A04");
    check.due("keep(4)", x.keep(4), 1);
    Cards.open(x);
    check.due("READY names both", Check.answer(x), "800A1800" + "08010100" + "20010100");
    check.sends(x, Cards.read(1, 1), 0x9000, "70025A01");
    check.sends(x, Cards.read(4, 1), 0x9000, "70025A04");
  }

  @Says(in = "Promise 8", value = "it has 3 records")
  static void aFullFile(Check check) {
    for (int file = 1; file <= 4; file++) {
      PurseCard x = new PurseCard(Cards.NAME);
      check.due("the first", Check.keep(x, file, "01"), 1);
      check.due("the second", Check.keep(x, file, "02"), 2);
      check.due("the third", Check.keep(x, file, "03"), 3);
      check.due("the fourth", Check.keep(x, file, "0405"), -1);
      check.due("its row stays", x.wipe(), 2);
      Cards.open(x);
      for (int number = 1; number <= 3; number++) {
        check.sends(x, Cards.read(file, number), 0x9000, "70010" + number);
      }
      check.sends(x, Cards.read(file, 4), 0x6A83, "");
    }
  }

  @Says(in = "Promise 8", value = "it has 3 records")
  static void aFullFileLeavesRoomInTheOthers(Check check) {
    PurseCard x = new PurseCard(Cards.NAME);
    for (int file = 1; file <= 4; file++) {
      for (int number = 1; number <= 3; number++) {
        check.due("keep(" + file + ")", Check.keep(x, file, "5A".repeat(30)), number);
      }
    }
    x.put(1);
    for (int file = 1; file <= 4; file++) {
      check.due("keep(" + file + ") of a full card", x.keep(file), -1);
    }
    check.due("the row stays", x.wipe(), 1);
  }

  @Says(in = "Promise 8", value = "or the row is empty")
  static void anEmptyRow(Check check) {
    PurseCard x = Cards.at(0);
    for (int file = 1; file <= 4; file++) {
      check.due("keep(" + file + ") of an empty row", x.keep(file), -1);
    }
    Check.type(x, "00");
    check.due("keep of one byte", x.keep(2), 3);
    check.due("keep again", x.keep(1), -1);
    Cards.open(x);
    check.due("READY names one file", Check.answer(x), "8006180010010300");
    check.sends(x, Cards.read(2, 3), 0x9000, "700100");
  }

  @Says(in = "Promise 8", value = "or has more than 30 bytes")
  static void theLongestRow(Check check) {
    for (int size = 29; size <= 40; size++) {
      PurseCard x = new PurseCard(Cards.NAME);
      String row = "5A".repeat(size - 1) + "FF";
      check.due("keep of " + size, Check.keep(x, 1, row), size <= 30 ? 1 : -1);
      check.due("wipe() behind it", x.wipe(), size <= 30 ? 0 : size);
      Cards.open(x);
      check.sends(x, Cards.read(1, 1), size <= 30 ? 0x9000 : 0x6A82,
          size <= 30 ? "70" + Check.number(size, 1) + row : "");
    }
  }

  @Says(in = "Promise 8", value = "The row becomes a record more of a file, and is empty then.")
  static void rowIsEmptyThen(Check check) {
    PurseCard x = new PurseCard(Cards.NAME);
    Check.keep(x, 1, "5A".repeat(30));
    check.due("wipe()", x.wipe(), 0);
    Check.type(x, "00".repeat(40));
    check.due("40 more can be typed", x.wipe(), 40);
  }

  @Says(in = "Promise 8", value = "The row becomes a record more of a file")
  static void keptAtEveryStage(Check check) {
    for (int stage = 0; stage <= 4; stage++) {
      PurseCard x = Cards.at(stage);
      check.due("keep at stage " + stage, Check.keep(x, 2, "DD"), 3);
      check.due("stage()", x.stage(), stage);
      check.due("keep at stage " + stage, Check.keep(x, 2, "EE"), -1);
    }
  }

  @Says(in = "Promise 11", value = "refused with false if v is less than the counter")
  static void advanceBelowTheCounter(Check check) {
    for (int counter : new int[] {0, 1, 255, 256, 65534, 65535}) {
      PurseCard x = new PurseCard(Cards.NAME);
      check.due("advance(" + counter + ")", x.advance(counter), true);
      check.due("one less", x.advance(counter - 1), false);
      check.due("0, or less", x.advance(counter == 0 ? -1 : 0), false);
      check.due("least", x.advance(Integer.MIN_VALUE), false);
      check.due("counter()", x.counter(), counter);
      check.due("the same", x.advance(counter), true);
      check.due("counter()", x.counter(), counter);
    }
  }

  @Says(in = "Promise 11", value = "or above 65535")
  static void advanceAboveTheLast(Check check) {
    PurseCard x = new PurseCard(Cards.NAME);
    check.due("advance(65536)", x.advance(65536), false);
    check.due("advance(131071)", x.advance(131071), false);
    check.due("advance(most)", x.advance(Integer.MAX_VALUE), false);
    check.due("counter()", x.counter(), 0);
    check.due("advance(65535)", x.advance(65535), true);
    check.due("counter()", x.counter(), 65535);
    check.due("advance(65536)", x.advance(65536), false);
    check.due("advance(0)", x.advance(0), false);
    check.due("counter()", x.counter(), 65535);
  }

  @Says(in = "Promise 11", value = "v is less than the counter")
  static void advanceBehindReady(Check check) {
    PurseCard x = Cards.at(2);
    check.due("advance(0)", x.advance(0), false);
    check.due("advance(1)", x.advance(1), true);
    check.due("advance(2)", x.advance(2), true);
    check.due("advance(1)", x.advance(1), false);
    check.due("counter()", x.counter(), 2);
  }

  @Says(in = "Promise 16", value = "The counter.")
  static void counterFromFirstToLast(Check check) {
    PurseCard x = Cards.at(1);
    check.due("counter()", x.counter(), 0);
    Cards.takes(x, Check.ready(1));
    check.due("counter()", x.counter(), 1);
    x.advance(65534);
    check.due("counter()", x.counter(), 65534);
    check.due("pay", x.pay(1, 1, 1, Cards.CODE, false), 1);
    check.due("counter()", x.counter(), 65535);
    check.due("pay", x.pay(1, 1, 1, Cards.CODE, false), -0x6985);
    check.due("it does not go round", x.counter(), 65535);
  }
}
