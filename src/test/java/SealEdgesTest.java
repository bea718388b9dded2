import java.util.HashSet;
import java.util.Set;

/** The edges of the seal: the term, and promises 9 and 12. */
public final class SealEdgesTest {
  private static final String ROW =
      "6BC1BEE22E409F96E93D7E117393172AAE2D8A571E03AC9C9EB76FAC45AF8E5130C81C46A35CE411";

  public static void main(String[] args) {
    Edges.run(SealEdgesTest.class);
  }

  @Says(in = "Terms, THE SEAL", value = "If M has n > 0 blocks of 16 bytes and nothing besides")
  static void wholeBlocks(Check check) {
    sealsSize(check, 16);
    sealsSize(check, 32);
  }

  @Says(in = "Terms, THE SEAL", value = "otherwise a byte 80 and then 00 up to a whole block come to M")
  static void noBlockAtAll(Check check) {
    sealsSize(check, 0);
  }

  @Says(in = "Terms, THE SEAL", value = "otherwise a byte 80 and then 00 up to a whole block come to M")
  static void besideWholeBlocks(Check check) {
    int[] sizes = {1, 2, 14, 15, 17, 18, 30, 31, 33, 39, 40};
    for (int size : sizes) {
      sealsSize(check, size);
    }
  }

  @Says(in = "Terms, THE SEAL", value = "a byte 80 and then 00 up to a whole block come to M")
  static void filledByHand(Check check) {
    // the same block in the end, but another double is combined with it
    PurseCard x = keyed(Cards.KEY);
    Check.type(x, ROW.substring(0, 30));
    check.due("15 bytes", seal(x), Check.mac(Cards.KEY, ROW.substring(0, 30)));
    x.put(0x80);
    check.due("15 bytes and 80", seal(x), Check.mac(Cards.KEY, ROW.substring(0, 30) + "80"));
    x.wipe();
    x.put(0x80);
    Check.type(x, "00".repeat(15));
    check.due("80 and 00s", seal(x), Check.mac(Cards.KEY, "80" + "00".repeat(15)));
    x.wipe();
    check.due("nothing", seal(x), Check.mac(Cards.KEY, ""));
  }

  /** Keys for which a 1 goes out of L or not, and of L1 or not. */
  @Says(in = "Terms, THE SEAL", value = "and if a 1 went out, the last byte is combined with 87")
  static void doublesThatWrap(Check check) {
    Set<Integer> met = new HashSet<>();
    for (int k = 0; met.size() < 4 && k < 1000; k++) {
      String key = Check.number(k, 8) + Check.number(~k, 8);
      int first = Check.firstBits(key);
      if (met.add(first)) {
        PurseCard x = keyed(key);
        check.due("no byte, first bits " + first, seal(x), Check.mac(key, ""));
        Check.type(x, ROW.substring(0, 32));
        check.due("16 bytes, first bits " + first, seal(x), Check.mac(key, ROW.substring(0, 32)));
      }
    }
    check.due("all four met", met.size(), 4);
  }

  /** L has every byte at its first place, so also 7F, 80 and FF, on both sides of where a 1 goes out. */
  @Says(in = "Terms, THE SEAL", value = "if a 1 went out")
  static void doublesOfEveryFirstByte(Check check) {
    Set<Integer> met = new HashSet<>();
    for (int k = 0; met.size() < 256 && k < 20000; k++) {
      String key = Check.number(k, 8) + Check.number(3L * k, 8);
      if (met.add(Check.firstByte(key))) {
        PurseCard x = keyed(key);
        check.due("no byte, key " + key, seal(x), Check.mac(key, ""));
      }
    }
    check.due("all met", met.size(), 256);
  }

  @Says(in = "Terms, THE SEAL", value = "the inverse of b (0 for 0)")
  static void everyByteThroughS(Check check) {
    // a row of one block alone: every byte b at the first place meets S(b + L1 + key)
    for (int b = 0; b < 256; b++) {
      PurseCard x = keyed(Cards.KEY);
      String row = Check.number(b, 1) + "00".repeat(15);
      Check.type(x, row);
      check.due("row " + row, seal(x), Check.mac(Cards.KEY, row));
    }
  }

  @Says(in = "Terms, THE SEAL", value = "the byte at row i and column j (byte i + 4 * j, i and j from 0 to 3) becomes"
      + " that at row i and column (j + i) modulo 4")
  static void everyPlaceOfABlock(Check check) {
    for (int place = 0; place < 16; place++) {
      PurseCard x = keyed(Cards.KEY);
      String row = "00".repeat(place) + "01" + "00".repeat(15 - place);
      Check.type(x, row);
      check.due("row " + row, seal(x), Check.mac(Cards.KEY, row));
    }
  }

  @Says(in = "Promise 9", value = "The key becomes these two numbers of 8 bytes, one behind the other.")
  static void everyByteOfTheKey(Check check) {
    for (int place = 0; place < 16; place++) {
      for (String b : new String[] {"01", "7F", "80", "FF"}) {
        String key = "00".repeat(place) + b + "00".repeat(15 - place);
        PurseCard x = keyed(key);
        Check.type(x, "0102");
        check.due("key " + key, seal(x), Check.mac(key, "0102"));
      }
    }
  }

  @Says(in = "Promise 9", value = "these two numbers of 8 bytes")
  static void keysAtTheEndsOfLong(Check check) {
    long[] ends = {0, 1, -1, Long.MIN_VALUE, Long.MIN_VALUE + 1, Long.MAX_VALUE, Long.MAX_VALUE - 1};
    for (long first : ends) {
      for (long second : ends) {
        PurseCard x = new PurseCard(1);
        x.key(first, second);
        check.due("key(" + first + ", " + second + ")", seal(x),
            Check.mac(Check.number(first, 8) + Check.number(second, 8), ""));
      }
    }
  }

  @Says(in = "Promise 9", value = "The key becomes these two numbers")
  static void keyBackToNought(Check check) {
    PurseCard x = keyed(Cards.KEY);
    x.key(0, 0);
    check.due("key(0, 0)", seal(x), Check.mac(Check.NO_KEY, ""));
  }

  @Says(in = "Promise 12", value = "NONE if i is not 0 .. 15")
  static void sealAtBothEnds(Check check) {
    PurseCard x = keyed(Cards.KEY);
    Check.type(x, ROW);
    int[] want = Check.bytes(Check.mac(Cards.KEY, ROW));
    check.due("seal(-1)", x.seal(-1), -1);
    check.due("seal(0)", x.seal(0), want[0]);
    check.due("seal(15)", x.seal(15), want[15]);
    check.due("seal(16)", x.seal(16), -1);
    check.due("seal(least)", x.seal(Integer.MIN_VALUE), -1);
    check.due("seal(most)", x.seal(Integer.MAX_VALUE), -1);
  }

  @Says(in = "Promise 12", value = "Byte i of the seal of the row")
  static void sealOfAnEmptyAndOfAFullRow(Check check) {
    PurseCard x = keyed(Cards.KEY);
    check.due("empty", seal(x), Check.mac(Cards.KEY, ""));
    Check.type(x, ROW);
    check.due("full", seal(x), Check.mac(Cards.KEY, ROW));
    x.put(1);
    check.due("one more is refused", seal(x), Check.mac(Cards.KEY, ROW));
    x.wipe();
    check.due("empty again", seal(x), Check.mac(Cards.KEY, ""));
  }

  @Says(in = "Promise 12", value = "(The row stays.)")
  static void rowStays(Check check) {
    PurseCard x = Cards.at(0);
    Check.type(x, Check.select(Cards.NAME));
    x.seal(0);
    x.seal(15);
    x.seal(16);
    check.status("SELECT is still there", x.send(), 0x9000);
    Check.type(x, ROW);
    x.seal(0);
    x.seal(-1);
    check.due("wipe()", x.wipe(), 40);
    check.due("seal(0) of an empty row", x.seal(0), Check.bytes(Check.mac(Cards.KEY, ""))[0]);
    check.due("which stays empty", x.wipe(), 0);
  }

  private static void sealsSize(Check check, int size) {
    PurseCard x = keyed(Cards.KEY);
    String row = ROW.substring(0, 2 * size);
    Check.type(x, row);
    check.due(size + " bytes", seal(x), Check.mac(Cards.KEY, row));
  }

  private static PurseCard keyed(String key) {
    PurseCard x = new PurseCard(1);
    x.key(Long.parseUnsignedLong(key.substring(0, 16), 16), Long.parseUnsignedLong(key.substring(16), 16));
    return x;
  }

  private static String seal(PurseCard x) {
    int[] all = new int[16];
    for (int i = 0; i < 16; i++) {
      all[i] = x.seal(i);
    }
    return Check.hex(all);
  }
}
