import java.util.Random;

/** Promise 7: find. Records of any bytes come into the answer by READ, as 70 { record }. */
public final class FindTest {
  public static void main(String[] args) {
    Check check = new Check();
    written(check);
    commands(check);
    deep(check);
    anyBytes(check);
    check.end();
  }

  private static void written(Check check) {
    finds(check, "5A0312345F", 0x70, 2);
    finds(check, "5A03123456", 0x5A, 4);
    finds(check, "5A03123456 5F2402AABB", 0x5F24, 10);
    finds(check, "5A03123456 5F2402AABB", 0x5F, -1);
    finds(check, "5A03123456 5F2402AABB", 0x24, -1);
    finds(check, "5A03123456 5F2402AABB", 0x12, -1);
    finds(check, "5A0312345F", 0x5A5F, -1);
    finds(check, "5A0111 5A0122", 0x5A, 4);
    // of no bytes, also at the very end
    finds(check, "5A00", 0x5A, 4);
    finds(check, "9F0100", 0x9F01, 5);
    finds(check, "0000 0100", 0x01, 6);
    finds(check, "0000 0100", 0x00, 4);
    // too short by one
    finds(check, "5A", 0x5A, -1);
    finds(check, "5A0212", 0x5A, -1);
    finds(check, "9F01", 0x9F01, -1);
    finds(check, "9F", 0x9F, -1);
    finds(check, "9F010211", 0x9F01, -1);
    finds(check, "5AFF11", 0x5A, -1);
    finds(check, "5A0111 5B0222", 0x5A, 4);
    finds(check, "5A0111 5B0222", 0x5B, -1);
    finds(check, "5B022233 5A0111", 0x5A, 8);
    finds(check, "5B0222 5A0111", 0x5A, -1);
    finds(check, "5B05 5A0111", 0x5A, -1);
    // rows inside
    finds(check, "A504 5A0211225B0133", 0x5A, 6);
    finds(check, "A504 5A0211225B0133", 0x5B, 10);
    finds(check, "A503 5A0211225B0133", 0x5A, -1);
    finds(check, "A503 5A0211225B0133", 0xA5, 4);
    finds(check, "A503 5A0211225B0133", 0x5B, -1);
    finds(check, "8503 5A0211 5B0133", 0x5A, -1);
    finds(check, "8503 5A0211 5B0133", 0x5B, 9);
    finds(check, "A500 5A0111", 0x5A, 6);
    finds(check, "A500", 0x5A, -1);
    finds(check, "A503 5A0111 A503 5A0122", 0x5A, 6);
    finds(check, "A503 5A0111 5A0122", 0x5A, 6);
    finds(check, "A503 5B0111 5A0122", 0x5A, 9);
    finds(check, "A505 A603 5B0111 5A0122", 0x5A, 11);
    finds(check, "A505 A603 5B0111 5A0122", 0xA6, 6);
    finds(check, "A504 A603 5B0111", 0xA6, -1);
    finds(check, "A505 A602 5B0111", 0x5B, -1);
    // the one looked for is not looked through, so its bytes need not be rows
    finds(check, "A502 FFFF", 0xA5, 4);
    finds(check, "A502 FFFF 5A00", 0x5A, -1);
    finds(check, "FF0102 5A00", 0x5A, 7);
    finds(check, "BF8103 5A0111 5B00", 0x5A, 7);
    finds(check, "BF8103 5A0111 5B00", 0xBF81, 5);
    finds(check, "5F8103 5A0111 5B00", 0x5A, -1);
    finds(check, "1F1F01AA", 0x1F1F, 5);
    finds(check, "1F000155 5A00", 0x1F00, 5);
    int[] never = {-1, -112, 0x170, 0x10070, 256, Integer.MIN_VALUE, Integer.MAX_VALUE};
    for (int tag : never) {
      finds(check, "5A0111", tag, -1);
    }
  }

  private static void commands(Check check) {
    PurseCard x = new PurseCard(3);
    check.due("in an empty answer", x.find(0), -1);
    Check.send(x, Check.select(3));
    int[][] places = {{0x6F, 2}, {0x84, 4}, {0xA5, 13}, {0x50, 15}, {0x9F38, 22}, {0x9F02, -1}, {0x43, -1}};
    for (int[] p : places) {
      check.due("SELECT, find " + Integer.toHexString(p[0]), x.find(p[0]), p[1]);
    }
    Check.send(x, Check.ready(1));
    check.due("READY, find 80", x.find(0x80), 2);
    check.due("READY, find 18", x.find(0x18), -1);
    Check.send(x, Check.seal(0, 1, 1));
    check.due("SEAL, find 77", x.find(0x77), 2);
    check.due("SEAL, find 9F27", x.find(0x9F27), 5);
    check.due("SEAL, find 9F36", x.find(0x9F36), 9);
    check.due("SEAL, find 9F26", x.find(0x9F26), 14);
    Check.send(x, "80CA9F17");
    check.due("GET, find 9F17", x.find(0x9F17), 3);
    x.send();
    check.due("behind a fault", x.find(0x9F17), -1);
  }

  private static void deep(Check check) {
    StringBuilder record = new StringBuilder();
    for (int i = 0; i < 15; i++) {
      record.append(Check.number(0x60 + i, 1)).append(Check.number(28 - 2 * i, 1));
    }
    for (int i = 0; i < 15; i++) {
      finds(check, record.toString(), 0x60 + i, 4 + 2 * i);
    }
    finds(check, record.toString(), 0x01, -1);
    finds(check, "30".repeat(30), 0x30, -1);
    finds(check, "00".repeat(30), 0, 4);
    finds(check, "2000".repeat(14) + "0100", 1, 32);
  }

  /** Against another reading of the promise, on rows that mostly can be read for some way. */
  private static void anyBytes(Check check) {
    Random random = new Random(7);
    for (int round = 0; round < 20000; round++) {
      int[] record = new int[1 + random.nextInt(30)];
      for (int i = 0; i < record.length; i++) {
        int[] likely = {0x20, 0x3F, 0x1F, 0, 1, 2, 3, 4, 0xA5, 0x21, record.length - i - 2, record.length - i - 3,
            random.nextInt(256)};
        record[i] = likely[random.nextInt(likely.length)] & 255;
      }
      PurseCard x = reading(Check.hex(record));
      int[] answer = Check.bytes(Check.answer(x));
      for (int n = 0; n < 12; n++) {
        int at = random.nextInt(answer.length);
        int tag = random.nextBoolean() || at + 1 == answer.length ? answer[at] : 256 * answer[at] + answer[at + 1];
        int found = within(answer, 0, answer.length, tag);
        check.due("record " + Check.hex(record) + ", find " + tag, x.find(tag), found < 0 ? -1 : found);
      }
    }
  }

  /** The place of the tag, -1 if it is not between from and to, -2 if that can't be read. */
  private static int within(int[] a, int from, int to, int tag) {
    if (from == to) {
      return -1;
    }
    int here = a[from];
    int length = from + 1;
    if (here % 32 == 31) {
      if (length >= to) {
        return -2;
      }
      here = here * 256 + a[length];
      length++;
    }
    if (length >= to || a[length] > to - length - 1) {
      return -2;
    }
    int begin = length + 1;
    if (here == tag) {
      return begin;
    }
    if (a[from] / 32 % 2 == 1) {
      int inside = within(a, begin, begin + a[length], tag);
      if (inside != -1) {
        return inside;
      }
    }
    return within(a, begin + a[length], to, tag);
  }

  private static void finds(Check check, String record, int tag, int want) {
    check.due("record " + record + ", find " + Integer.toHexString(tag), reading(record).find(tag), want);
  }

  private static PurseCard reading(String record) {
    PurseCard x = new PurseCard(0);
    Check.keep(x, 1, record);
    Check.send(x, Check.select(0));
    Check.send(x, Check.ready(0));
    if (Check.send(x, "00B2010C") != Check.FINE) {
      throw new IllegalStateException("READ of " + record);
    }
    return x;
  }
}
