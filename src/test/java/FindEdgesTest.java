/** The edges of promise 7: find. A record comes into the answer by READ as 70 { record }, so it begins at place 2. */
public final class FindEdgesTest {
  public static void main(String[] args) {
    Edges.run(FindEdgesTest.class);
  }

  private static void finds(Check check, String record, int tag, int place) {
    PurseCard x = Cards.reading(record.replace(" ", ""));
    check.due("record " + record + ", find " + Integer.toHexString(tag), x.find(tag), place);
  }

  @Says(in = "Promise 7", value = "Looks for a tag in the answer")
  static void inAnEmptyAnswer(Check check) {
    for (int tag : new int[] {0, 0x70, 0x6F, 0x9F36, -1}) {
      check.due("new, find " + tag, new PurseCard(1).find(tag), -1);
      PurseCard x = Cards.at(2);
      Cards.takes(x, Check.prove(Cards.PIN));
      check.due("behind PROVE, find " + tag, x.find(tag), -1);
    }
  }

  @Says(in = "Promise 7", value = "Looks for a tag in the answer")
  static void notInWhatALongerAnswerLeft(Check check) {
    PurseCard x = Cards.reading("5A021122 5B1733".replace(" ", "") + "00".repeat(22));
    check.due("in the long one", x.find(0x5B), 8);
    Cards.takes(x, "80CA9F17");
    check.due("in the short one", x.find(0x5B), -1);
    check.due("in the short one", x.find(0x9F17), 3);
    x.send();
    check.due("in none", x.find(0x9F17), -1);
  }

  @Says(in = "Promise 7", value = "a tag of one byte, or of two if the lowest five bits of the first are all 1")
  static void everyFirstByteOfATag(Check check) {
    for (int first = 0; first < 256; first++) {
      if (first == 0x70 || first == 0x5A) {
        continue;
      }
      // a tag of one byte with the byte 00, or a tag of two bytes, the second 01, with no byte
      String record = Check.number(first, 1) + "0100" + "5A0155";
      boolean two = first % 32 == 31;
      boolean inside = first / 32 % 2 == 1;
      check.due("tag " + record, Cards.reading(record).find(two ? 256 * first + 1 : first), two ? 5 : 4);
      // one byte 00 inside can't be read as rows
      check.due("behind it " + record, Cards.reading(record).find(0x5A), inside && !two ? -1 : 7);
    }
  }

  @Says(in = "Promise 7", value = "of two if the lowest five bits of the first are all 1")
  static void twoBytesAreOneTag(Check check) {
    finds(check, "9F3601AA", 0x9F36, 5);
    finds(check, "9F3601AA", 0x9F, -1);
    finds(check, "9F3601AA", 0x36, -1);
    finds(check, "9F3601AA", 0x9F37, -1);
    finds(check, "9F3601AA", 0x9E36, -1);
    finds(check, "9E0136", 0x9E, 4);
    finds(check, "9E0136", 0x9E01, -1);
    finds(check, "1F0001AA", 0x1F00, 5);
    finds(check, "1FFF01AA", 0x1FFF, 5);
    finds(check, "FFFF00", 0xFFFF, 5);
  }

  @Says(in = "Promise 7", value = "(one byte, or 256 * first + second)")
  static void numbersThatAreNoTag(Check check) {
    for (int tag : new int[] {-1, -0x90, 0x15A, 0x5A00, 0x1005A, 256, 65536, 0x10000 + 0x9F36, Integer.MIN_VALUE,
        Integer.MAX_VALUE, Integer.MIN_VALUE + 0x5A}) {
      finds(check, "5A0111 9F360122", tag, -1);
    }
    finds(check, "00015A", 0, 4);
    finds(check, "000100 FF01", 0, 4);
  }

  @Says(in = "Promise 7", value = "a byte for the length")
  static void lengthMissing(Check check) {
    finds(check, "5A", 0x5A, -1);
    finds(check, "5A00", 0x5A, 4);
    finds(check, "9F", 0x9F, -1);
    finds(check, "9F36", 0x9F36, -1);
    finds(check, "9F3600", 0x9F36, 5);
    finds(check, "5B0111 5A", 0x5A, -1);
    finds(check, "5B0111 9F36", 0x9F36, -1);
  }

  @Says(in = "Promise 7", value = "a byte for the length; the bytes")
  static void bytesUpToTheEndAndOneMore(Check check) {
    finds(check, "5A0111", 0x5A, 4);
    finds(check, "5A0211", 0x5A, -1);
    finds(check, "5A1C" + "00".repeat(28), 0x5A, 4);
    finds(check, "5A1D" + "00".repeat(28), 0x5A, -1);
    finds(check, "9F361B" + "00".repeat(27), 0x9F36, 5);
    finds(check, "9F361C" + "00".repeat(27), 0x9F36, -1);
  }

  /** Some other ways of writing lengths have longer forms from 80 on; here a byte is a length as it stands. */
  @Says(in = "Promise 7", value = "a byte for the length")
  static void largeLengths(Check check) {
    for (String length : new String[] {"7F", "80", "81", "82", "FF"}) {
      finds(check, "5A" + length + "0111", 0x5A, -1);
      finds(check, "5B" + length + "0111 5A00", 0x5A, -1);
    }
  }

  @Says(in = "Promise 7", value = "If bit 5 of the tag's first byte is 1, its bytes are such rows themselves")
  static void bitFive(Check check) {
    finds(check, "A503 5A0111", 0x5A, 6);
    finds(check, "8503 5A0111", 0x5A, -1);
    finds(check, "2003 5A0111", 0x5A, 6);
    finds(check, "DE03 5A0111", 0x5A, -1);
    finds(check, "FE03 5A0111", 0x5A, 6);
    // of two bytes, the first one counts alone
    finds(check, "5F2003 5A0111", 0x5A, -1);
    finds(check, "BF0003 5A0111", 0x5A, 7);
    finds(check, "DFFF03 5A0111", 0x5A, -1);
    finds(check, "FFDF03 5A0111", 0x5A, 7);
  }

  @Says(in = "Promise 7", value = "which end where they end")
  static void rowsInsideEndWithTheirOuterRow(Check check) {
    finds(check, "A503 5A0111 5B00", 0x5A, 6);
    finds(check, "A502 5A0111 5B00", 0x5A, -1);
    finds(check, "A501 5A0111 5B00", 0x5A, -1);
    finds(check, "A500 5A0111 5B00", 0x5A, 6);
    finds(check, "A502 5A00 5B00", 0x5B, 8);
    finds(check, "A504 9F360111 5B00", 0x9F36, 7);
    finds(check, "A503 9F360111 5B00", 0x9F36, -1);
    finds(check, "A502 9F3600 5B00", 0x9F36, -1);
    finds(check, "A501 9F3600 5B00", 0x9F36, -1);
    // the outer row itself ends with the one around it, or with the answer
    finds(check, "A503 A601 5A00", 0xA6, 6);
    finds(check, "A502 A601 5A00", 0xA6, -1);
    finds(check, "A504 5A0111", 0x5A, -1);
  }

  @Says(in = "Promise 7", value = "which end where they end")
  static void manyRowsEndAtOnePlace(Check check) {
    finds(check, "A506 A604 A702 5B00 5A00", 0x5A, 12);
    finds(check, "A506 A604 A702 5B00", 0x5B, 10);
    finds(check, "A506 A604 A703 5B00 5A00", 0x5A, -1);
    finds(check, "A506 A605 A702 5B00 5A00", 0x5A, -1);
    finds(check, "A500 A600 A700 5A00", 0x5A, 10);
    finds(check, "A502 A600 5A00", 0x5A, 8);
  }

  @Says(in = "Promise 7", value = "and are looked through right after it")
  static void insideComesBeforeBehind(Check check) {
    finds(check, "A503 5A0111 5A0122", 0x5A, 6);
    finds(check, "A503 5B0111 5A0122", 0x5A, 9);
    finds(check, "5A0122 A503 5A0111", 0x5A, 4);
    finds(check, "A503 A60155 5A00", 0x5A, -1);
  }

  @Says(in = "Promise 7", value = "(not if it is the one that is looked for)")
  static void theOneLookedForIsNotLookedThrough(Check check) {
    finds(check, "A502 FFFF", 0xA5, 4);
    finds(check, "A501 5A", 0xA5, 4);
    finds(check, "A505 A503 5A0111", 0xA5, 4);
    finds(check, "5A", 0x70, 2);
    finds(check, "A502 FFFF 5A00", 0x5A, -1);
  }

  @Says(in = "Promise 7", value = "Answers the place of the first byte behind the length")
  static void placeOfARowWithoutBytes(Check check) {
    PurseCard x = Cards.reading("5A00");
    check.due("find", x.find(0x5A), 4);
    check.due("there is no byte", x.answer(4), -1);
    finds(check, "5A00 5B0111", 0x5A, 4);
    finds(check, "A500", 0xA5, 4);
    finds(check, "00".repeat(28) + "5A00", 0x5A, 32);
  }

  @Says(in = "Promise 7", value = "of the first one met with the tag")
  static void theFirstOfMany(Check check) {
    finds(check, "5A0111 5A0122 5A0133", 0x5A, 4);
    finds(check, "5B015A 5A0122 5A0133", 0x5A, 7);
    finds(check, "7003 5A0111", 0x70, 2);
    finds(check, "00".repeat(30), 0, 4);
  }

  @Says(in = "Promise 7", value = "NONE if there is none")
  static void noneInRowsThatCanBeRead(Check check) {
    finds(check, "5A0111", 0x5B, -1);
    finds(check, "5A0111 A5025B00", 0x5C, -1);
    finds(check, "5A025B00", 0x5B, -1);
    finds(check, "00".repeat(30), 1, -1);
    finds(check, "2000".repeat(15), 1, -1);
  }

  @Says(in = "Promise 7", value = "or the answer can't be read so up to there")
  static void cannotBeReadBeforeIt(Check check) {
    finds(check, "5BFF 5A0111", 0x5A, -1);
    finds(check, "A503 5BFF11 5A0111", 0x5A, -1);
    finds(check, "A501 5B 5A0111", 0x5A, -1);
    finds(check, "A502 9F36 5A0111", 0x5A, -1);
  }

  @Says(in = "Promise 7", value = "can't be read so up to there")
  static void cannotBeReadBehindIt(Check check) {
    finds(check, "5A0111 5BFF", 0x5A, 4);
    finds(check, "5A0111 5B", 0x5A, 4);
    finds(check, "5A0111 9F", 0x5A, 4);
    finds(check, "A505 5A0111 5BFF", 0x5A, 6);
    finds(check, "A504 5A0111 9F", 0x5A, 6);
  }

  @Says(in = "Promise 7", value = "the row with the tag included")
  static void cannotBeReadItself(Check check) {
    finds(check, "5A0211", 0x5A, -1);
    finds(check, "A503 5A0211 22", 0x5A, -1);
    finds(check, "A502 A601 5A00", 0xA6, -1);
    finds(check, "A503 5A00", 0xA5, -1);
    finds(check, "5B0111 9F360222", 0x9F36, -1);
  }

  @Says(in = "Promise 7", value = "its bytes are such rows themselves")
  static void asDeepAsAnAnswerGoes(Check check) {
    StringBuilder record = new StringBuilder();
    for (int i = 0; i < 15; i++) {
      record.append(Check.number(0x60 + i, 1)).append(Check.number(28 - 2 * i, 1));
    }
    for (int i = 0; i < 15; i++) {
      finds(check, record.toString(), 0x60 + i, 4 + 2 * i);
    }
    finds(check, record.toString(), 0x5A, -1);
    finds(check, record.substring(0, 58) + "01", 0x6E, -1);
    finds(check, record.substring(0, 56) + "5A00", 0x5A, 32);
  }
}
