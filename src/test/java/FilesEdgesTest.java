/** The edges of SELECT, READY, READ and GET, which tell what the card holds. */
public final class FilesEdgesTest {
  private static final String NAME = Check.name(Cards.NAME);

  public static void main(String[] args) {
    Edges.run(FilesEdgesTest.class);
  }

  @Says(in = "Terms, SELECT", value = "SELECT 00 A4, P1 04, P2 00")
  static void selectParameters(Check check) {
    for (int p = 0; p < 256; p++) {
      String b = Check.number(p, 1);
      String data = "07" + NAME;
      check.status("P1 " + b, Check.send(Cards.at(0), "00A4" + b + "00" + data), p == 4 ? 0x9000 : 0x6A86);
      check.status("P2 " + b, Check.send(Cards.at(0), "00A404" + b + data), p == 0 ? 0x9000 : 0x6A86);
    }
  }

  @Says(in = "Terms, SELECT", value = "5 to 16 bytes")
  static void selectSizes(Check check) {
    check.sends(Cards.at(0), "00A40400", 0x6700, "");
    check.sends(Cards.at(0), "00A4040004" + NAME.substring(0, 8), 0x6700, "");
    check.sends(Cards.at(0), "00A4040005" + NAME.substring(0, 10), 0x9000, Cards.CHOSEN);
    check.sends(Cards.at(0), "00A4040010" + NAME + "00".repeat(9), 0x6A82, "");
    check.sends(Cards.at(0), "00A4040011" + NAME + "00".repeat(10), 0x6700, "");
    check.sends(Cards.at(0), "00A4040023" + NAME + "00".repeat(28), 0x6700, "");
  }

  @Says(in = "Terms, SELECT", value = "6A82 if they are not the beginning of the name (or the name)")
  static void selectWithTheBeginningOfTheName(Check check) {
    for (int size = 5; size <= 7; size++) {
      check.sends(Cards.at(0), chosenBy(NAME.substring(0, 2 * size)), 0x9000, Cards.CHOSEN);
    }
  }

  @Says(in = "Terms, SELECT", value = "6A82 if they are not the beginning of the name (or the name)")
  static void selectWithMoreThanTheName(Check check) {
    for (int more = 1; more <= 9; more++) {
      check.sends(Cards.at(0), chosenBy(NAME + "00".repeat(more)), 0x6A82, "");
      check.sends(Cards.at(0), chosenBy(NAME + "FF".repeat(more)), 0x6A82, "");
    }
  }

  @Says(in = "Terms, SELECT", value = "6A82 if they are not the beginning of the name (or the name)")
  static void selectWithOneOtherByte(Check check) {
    for (int size = 5; size <= 7; size++) {
      for (int place = 0; place < size; place++) {
        int[] other = Check.bytes(NAME.substring(0, 2 * size));
        other[place] ^= 0x80;
        check.sends(Cards.at(0), chosenBy(Check.hex(other)), 0x6A82, "");
      }
    }
    // the end of the name, or a part from within, is not its beginning
    check.sends(Cards.at(0), chosenBy(NAME.substring(2)), 0x6A82, "");
    check.sends(Cards.at(0), chosenBy(NAME.substring(4)), 0x6A82, "");
  }

  @Says(in = "Terms, SELECT", value = "Then SELECTED.")
  static void selectFromEveryStage(Check check) {
    for (int stage = 0; stage <= 4; stage++) {
      PurseCard x = Cards.at(stage);
      int counter = x.counter();
      check.sends(x, chosenBy(NAME.substring(0, 10)), 0x9000, Cards.CHOSEN);
      check.due("stage() from " + stage, x.stage(), 1);
      check.due("counter() from " + stage, x.counter(), counter);
      PurseCard y = Cards.at(stage);
      check.sends(y, chosenBy(NAME + "00"), 0x6A82, "");
      check.due("stage() stays " + stage, y.stage(), stage);
    }
  }

  private static String chosenBy(String bytes) {
    return "00A40400" + Check.number(bytes.length() / 2, 1) + bytes;
  }

  @Says(in = "Terms, READY", value = "READY 80 A8, P1 00, P2 00")
  static void readyParameters(Check check) {
    for (int p = 0; p < 256; p++) {
      String b = Check.number(p, 1);
      String data = "088306000000000007";
      check.status("P1 " + b, Check.send(Cards.at(1), "80A8" + b + "00" + data), p == 0 ? 0x9000 : 0x6A86);
      check.status("P2 " + b, Check.send(Cards.at(1), "80A800" + b + data), p == 0 ? 0x9000 : 0x6A86);
    }
  }

  @Says(in = "Terms, READY", value = "SELECTED; 8 bytes")
  static void readySizes(Check check) {
    check.sends(Cards.at(1), "80A80000", 0x6700, "");
    check.sends(Cards.at(1), "80A80000028306", 0x6700, "");
    check.sends(Cards.at(1), "80A800000783060000000007", 0x6700, "");
    check.sends(Cards.at(1), "80A80000088306000000000007", 0x9000, "8006180010010200");
    check.sends(Cards.at(1), "80A8000009830600000000000007", 0x6700, "");
  }

  @Says(in = "Terms, READY", value = "6A80 if the first two are not 83 06")
  static void readyWithEveryFirstTwo(Check check) {
    for (int b = 0; b < 256; b++) {
      String first = "80A8000008" + Check.number(b, 1) + "06000000000007";
      check.status(first, Check.send(Cards.at(1), first), b == 0x83 ? 0x9000 : 0x6A80);
      String second = "80A800000883" + Check.number(b, 1) + "000000000007";
      check.status(second, Check.send(Cards.at(1), second), b == 0x06 ? 0x9000 : 0x6A80);
    }
  }

  @Says(in = "Terms, A COMMAND", value = "for READY also if the counter is 65535")
  static void readyWithTheLastCounter(Check check) {
    PurseCard x = Cards.at(1);
    x.advance(65534);
    check.sends(x, Check.ready(7), 0x9000, "8006180010010200");
    check.due("counter()", x.counter(), 65535);
    Cards.takes(x, Check.select(Cards.NAME));
    check.sends(x, Check.ready(7), 0x6985, "");
    check.due("counter()", x.counter(), 65535);
    check.due("stage()", x.stage(), 1);
  }

  @Says(in = "Terms, READY", value = "Then the counter grows by 1")
  static void counterGrowsByOne(Check check) {
    int[] counters = {0, 1, 254, 255, 256, 32767, 32768, 65533, 65534};
    for (int counter : counters) {
      PurseCard x = Cards.at(1);
      x.advance(counter);
      Cards.takes(x, Check.ready(7));
      check.due("counter() behind " + counter, x.counter(), counter + 1);
      check.sends(x, "80CA9F36", 0x9000, "9F3602" + Check.number(counter + 1, 2));
    }
  }

  @Says(in = "Terms, READY", value = "the amount is the other six")
  static void amountsAtBothEnds(Check check) {
    for (long amount : new long[] {0, 1, 255, 256, Check.MOST - 1, Check.MOST}) {
      PurseCard x = Cards.at(1);
      Cards.takes(x, Check.ready(amount));
      Cards.takes(x, Check.prove(Cards.PIN));
      check.sends(x, Check.seal(0x40, amount, 5), 0x9000, Check.sealed(Cards.KEY, amount, 5, 1, 0x40, true));
    }
  }

  @Says(in = "Terms, READY", value = "the code is not proven")
  static void readyTakesTheProofBack(Check check) {
    PurseCard x = Cards.proven();
    Cards.open(x);
    check.sends(x, Check.seal(0x40, Cards.AMOUNT, 5), 0x9000, Check.sealed(Cards.KEY, Cards.AMOUNT, 5, 2, 0x80, false));
  }

  @Says(in = "Terms, READY", value = "for each file that has records, the lesser first: 8 * file, 01, the number of its"
      + " records, 00")
  static void readyWithEveryChoiceOfFiles(Check check) {
    for (int choice = 0; choice < 16; choice++) {
      PurseCard x = new PurseCard(Cards.NAME);
      StringBuilder named = new StringBuilder();
      for (int file = 4; file >= 1; file--) {
        if ((choice >> (file - 1)) % 2 == 1) {
          int records = 1 + file % 3;
          for (int i = 0; i < records; i++) {
            Check.keep(x, file, "5A");
          }
          named.insert(0, Check.number(8 * file, 1) + "01" + Check.number(records, 1) + "00");
        }
      }
      Cards.takes(x, Check.select(Cards.NAME));
      check.sends(x, Check.ready(1), 0x9000,
          "80" + Check.number(2 + named.length() / 2, 1) + "1800" + named);
    }
  }

  @Says(in = "Terms, READY", value = "for each file that has records")
  static void readyWithAllFilesFullAndWithNone(Check check) {
    PurseCard x = new PurseCard(Cards.NAME);
    Cards.open(x);
    check.due("none", Check.answer(x), "80021800");
    check.due("all", Check.answer(Cards.full()), "80121800" + "08010300100103001801030020010300");
  }

  @Says(in = "Terms, READ", value = "(P2 must be 4 modulo 8)")
  static void readParameters(Check check) {
    for (int p2 = 0; p2 < 256; p2++) {
      String command = "00B201" + Check.number(p2, 1);
      int file = p2 / 8;
      int status = p2 % 8 != 4 ? 0x6A86 : file >= 1 && file <= 4 ? 0x9000 : 0x6A82;
      check.status(command, Check.send(Cards.full(), command), status);
    }
  }

  @Says(in = "Terms, READ", value = "no data")
  static void readWithData(Check check) {
    check.sends(Cards.full(), Cards.read(1, 1) + "0101", 0x6700, "");
    check.sends(Cards.full(), Cards.read(1, 1) + "00", 0x6700, "");
    check.sends(Cards.full(), Cards.read(1, 1), 0x9000, "700111");
  }

  @Says(in = "Terms, READ", value = "6A82 if there is no such file")
  static void readOfNoFile(Check check) {
    for (int number : new int[] {0, 1, 3, 4, 255}) {
      check.sends(Cards.full(), Cards.read(0, number), 0x6A82, "");
      check.sends(Cards.full(), Cards.read(5, number), 0x6A82, "");
      check.sends(Cards.full(), Cards.read(31, number), 0x6A82, "");
    }
  }

  @Says(in = "Terms, READ", value = "or it has no records")
  static void readOfAnEmptyFile(Check check) {
    for (int file = 1; file <= 4; file++) {
      for (int number : new int[] {0, 1, 255}) {
        check.sends(Cards.at(2), Cards.read(file, number), file != 2 ? 0x6A82 : number == 1 ? 0x9000 : 0x6A83,
            file == 2 && number == 1 ? "7002AABB" : "");
      }
    }
  }

  @Says(in = "Terms, READ", value = "6A83 if it has no such record (numbered from 1)")
  static void readOfEveryNumber(Check check) {
    for (int number = 0; number < 256; number++) {
      String command = Cards.read(4, number);
      check.status(command, Check.send(Cards.full(), command), number >= 1 && number <= 3 ? 0x9000 : 0x6A83);
    }
  }

  @Says(in = "Terms, READ", value = "6A83 if it has no such record (numbered from 1)")
  static void readBehindTheLastRecord(Check check) {
    for (int records = 1; records <= 3; records++) {
      PurseCard x = new PurseCard(Cards.NAME);
      for (int i = 1; i <= records; i++) {
        Check.keep(x, 3, Check.number(i, 1));
      }
      Cards.open(x);
      check.sends(x, Cards.read(3, 0), 0x6A83, "");
      check.sends(x, Cards.read(3, 1), 0x9000, "700101");
      check.sends(x, Cards.read(3, records), 0x9000, "7001" + Check.number(records, 1));
      check.sends(x, Cards.read(3, records + 1), 0x6A83, "");
    }
  }

  @Says(in = "Terms, READ", value = "Answer: 70 { record }")
  static void readOfTheShortestAndTheLongest(Check check) {
    check.due("1 byte", Check.answer(Cards.reading("FF")), "7001FF");
    check.due("30 bytes", Check.answer(Cards.reading("00FF".repeat(15))), "701E" + "00FF".repeat(15));
  }

  @Says(in = "Terms, READ", value = "Answer: 70 { record }")
  static void readOfEveryRecordOfFullFiles(Check check) {
    PurseCard x = Cards.full();
    for (int file = 4; file >= 1; file--) {
      for (int number = 3; number >= 1; number--) {
        check.sends(x, Cards.read(file, number), 0x9000,
            "70" + Check.number(number, 1) + Cards.record(file, number));
      }
    }
  }

  @Says(in = "Terms, GET", value = "GET 80 CA, P1 9F, P2 36 or 17; any stage; no data")
  static void getParameters(Check check) {
    for (int p = 0; p < 256; p++) {
      String b = Check.number(p, 1);
      int status = p == 0x36 || p == 0x17 ? 0x9000 : 0x6A86;
      check.status("P2 " + b, Check.send(Cards.at(0), "80CA9F" + b), status);
      check.status("P1 " + b, Check.send(Cards.at(0), "80CA" + b + "36"), p == 0x9F ? 0x9000 : 0x6A86);
      check.status("P1 " + b, Check.send(Cards.at(0), "80CA" + b + "17"), p == 0x9F ? 0x9000 : 0x6A86);
    }
  }

  @Says(in = "Terms, GET", value = "no data")
  static void getWithData(Check check) {
    for (String command : new String[] {"80CA9F36", "80CA9F17"}) {
      check.sends(Cards.at(0), command + "00", 0x6700, "");
      check.sends(Cards.at(0), command + "0100", 0x6700, "");
      check.sends(Cards.at(0), command + "020000", 0x6700, "");
    }
  }

  @Says(in = "Terms, GET", value = "9F 36 { counter as 2 bytes }")
  static void getOfTheCounter(Check check) {
    for (int counter : new int[] {0, 1, 255, 256, 65534, 65535}) {
      PurseCard x = Cards.at(0);
      x.advance(counter);
      check.sends(x, "80CA9F36", 0x9000, "9F3602" + Check.number(counter, 2));
    }
  }

  @Says(in = "Terms, GET", value = "9F 17 { tries as 1 byte }")
  static void getOfTheTries(Check check) {
    for (int left = 0; left <= 3; left++) {
      check.sends(Cards.withTries(left), "80CA9F17", 0x9000, "9F17010" + left);
    }
  }
}
