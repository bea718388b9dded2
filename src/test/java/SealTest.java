import java.util.Random;

/** Promises 9 and 12: key and seal. */
public final class SealTest {
  private static final String M = "6BC1BEE22E409F96E93D7E117393172AAE2D8A571E03AC9C9EB76FAC45AF8E5130C81C46A35CE411";

  public static void main(String[] args) {
    Check check = new Check();
    published(check);
    edges(check);
    everySize(check);
    manyKeys(check);
    keys(check);
    check.end();
  }

  /** The examples of RFC 4493. */
  private static void published(Check check) {
    PurseCard x = new PurseCard(0);
    x.key(0x2B7E151628AED2A6L, 0xABF7158809CF4F3CL);
    check.due("empty", read(x), "BB1D6929E95937287FA37D129B756746");
    Check.type(x, M.substring(0, 32));
    check.due("16 bytes", read(x), "070A16B46B4D4144F79BDD9DD04A287C");
    Check.type(x, M.substring(32));
    check.due("40 bytes", read(x), "DFA66747DE9AE63030CA32611497C827");
    check.due("the row stays", x.wipe(), 40);
  }

  private static void edges(Check check) {
    PurseCard x = new PurseCard(0);
    int[] none = {-1, 16, 17, Integer.MIN_VALUE, Integer.MAX_VALUE};
    for (int i : none) {
      check.due("seal(" + i + ")", x.seal(i), -1);
    }
    Check.type(x, Check.select(0));
    x.seal(3);
    check.status("the row is sent whole behind seal", x.send(), 0x9000);
    int had = x.answered();
    x.seal(0);
    check.due("the answer stays", x.answered(), had);
  }

  private static void everySize(Check check) {
    Random random = new Random(1);
    for (int round = 0; round < 40; round++) {
      long first = random.nextLong();
      long second = random.nextLong();
      for (int size = 0; size <= 40; size++) {
        PurseCard x = new PurseCard(round);
        int[] row = new int[size];
        for (int i = 0; i < size; i++) {
          row[i] = random.nextInt(256);
          x.put(row[i]);
        }
        if (round > 0) {
          x.key(first, second);
        }
        String key = round > 0 ? String.format("%016X%016X", first, second) : Check.NO_KEY;
        check.due("key " + key + ", row " + Check.hex(row), read(x), Check.mac(key, Check.hex(row)));
      }
    }
  }

  /** So many keys that the doubling meets first bytes on both sides of its edge. */
  private static void manyKeys(Check check) {
    Random random = new Random(2);
    String whole = "00112233445566778899AABBCCDDEEFF";
    for (int round = 0; round < 3000; round++) {
      long first = random.nextLong();
      long second = random.nextLong();
      String key = String.format("%016X%016X", first, second);
      PurseCard x = new PurseCard(0);
      x.key(first, second);
      check.due("key " + key + ", empty row", read(x), Check.mac(key, ""));
      Check.type(x, whole);
      check.due("key " + key + ", one block", read(x), Check.mac(key, whole));
    }
  }

  private static void keys(Check check) {
    long[] some = {0, 1, -1, Long.MIN_VALUE, Long.MAX_VALUE, 0x80, 0x0102030405060708L};
    for (long first : some) {
      PurseCard x = new PurseCard(0);
      Check.type(x, "0011");
      for (long second : some) {
        x.key(first, second);
        check.due("key(" + first + ", " + second + ")", read(x),
            Check.mac(String.format("%016X%016X", first, second), "0011"));
      }
    }
    PurseCard x = new PurseCard(0);
    Check.send(x, Check.select(0));
    Check.send(x, Check.ready(9));
    Check.send(x, Check.seal(0x80, 9, 1));
    check.due("genuine", x.genuine(9, 1, false), true);
    x.key(5, 6);
    check.due("genuine with another key", x.genuine(9, 1, false), false);
    check.due("the stage stays", x.stage(), 3);
    check.sends(x, Check.seal(0x40, 9, 1, "3030"), 0x9000,
        Check.sealed("00000000000000050000000000000006", 9, 1, 1, 0x40, false));
  }

  private static String read(PurseCard x) {
    int[] all = new int[16];
    for (int i = 0; i < 16; i++) {
      all[i] = x.seal(i);
    }
    return Check.hex(all);
  }
}
