/** Promise 8: keep, and the records in READY and READ. */
public final class KeepTest {
  public static void main(String[] args) {
    Check check = new Check();
    refusals(check);
    sizes(check);
    allFiles(check);
    noOtherFile(check);
    whilePaying(check);
    check.end();
  }

  private static void refusals(Check check) {
    PurseCard x = new PurseCard(0);
    int[] noFiles = {0, 5, -1, 6, 256, 257, Integer.MIN_VALUE, Integer.MAX_VALUE};
    Check.type(x, "0102");
    for (int file : noFiles) {
      check.due("keep(" + file + ")", x.keep(file), -1);
    }
    check.due("the row stays", x.wipe(), 2);
    for (int file = 1; file <= 4; file++) {
      check.due("keep of an empty row", x.keep(file), -1);
    }
    Check.type(x, "AA".repeat(31));
    check.due("keep of 31 bytes", x.keep(1), -1);
    Check.type(x, "AA".repeat(9));
    check.due("keep of 40 bytes", x.keep(1), -1);
    check.due("the long row stays", x.wipe(), 40);
    for (int n = 1; n <= 3; n++) {
      check.due("record " + n, Check.keep(x, 4, "0" + n), n);
      check.due("the row is empty", x.wipe(), 0);
    }
    check.due("a fourth record", Check.keep(x, 4, "0405"), -1);
    check.due("its row stays", x.wipe(), 2);
    check.due("another file", Check.keep(x, 3, "0405"), 1);
    open(x);
    check.sends(x, "00B20324", 0x9000, "700103");
    check.sends(x, "00B20424", 0x6A83, "");
  }

  private static void sizes(Check check) {
    for (int size = 1; size <= 30; size++) {
      PurseCard x = new PurseCard(0);
      String record = "7F".repeat(size - 1) + Check.number(size, 1);
      check.due("keep of " + size + " bytes", Check.keep(x, 2, record), 1);
      open(x);
      check.sends(x, "00B20114", 0x9000, "70" + Check.number(size, 1) + record);
    }
  }

  private static void allFiles(Check check) {
    PurseCard x = new PurseCard(0);
    for (int number = 1; number <= 3; number++) {
      for (int file = 4; file >= 1; file--) {
        check.due("keep", Check.keep(x, file, record(file, number)), number);
      }
    }
    Check.send(x, Check.select(0));
    check.sends(x, Check.ready(0), 0x9000, "80121800" + "08010300" + "10010300" + "18010300" + "20010300");
    for (int file = 1; file <= 4; file++) {
      for (int number = 1; number <= 3; number++) {
        String r = record(file, number);
        check.sends(x, "00B2" + Check.number(number, 1) + Check.number(8 * file + 4, 1), 0x9000,
            "70" + Check.number(r.length() / 2, 1) + r);
      }
    }
  }

  /** With all files full, none of the numbers beyond them names one. */
  private static void noOtherFile(Check check) {
    for (int file = 0; file < 32; file++) {
      PurseCard x = new PurseCard(0);
      for (int n = 0; n < 12; n++) {
        Check.keep(x, 1 + n % 4, "5A");
      }
      open(x);
      for (int number : new int[] {0, 1, 3, 4, 255}) {
        boolean there = file >= 1 && file <= 4;
        int status = !there ? 0x6A82 : number == 1 || number == 3 ? 0x9000 : 0x6A83;
        String command = "00B2" + Check.number(number, 1) + Check.number(8 * file + 4, 1);
        check.status(command, Check.send(x, command), status);
      }
    }
  }

  private static void whilePaying(Check check) {
    PurseCard x = new PurseCard(0);
    Check.keep(x, 3, "33");
    Check.keep(x, 1, "11");
    Check.keep(x, 1, "12");
    Check.send(x, Check.select(0));
    check.sends(x, Check.ready(0), 0x9000, "800A1800" + "08010200" + "18010100");
    check.sends(x, "00B20114", 0x6A82, "");
    check.due("keep while OPEN", Check.keep(x, 2, "22"), 1);
    check.due("stage()", x.stage(), 2);
    check.sends(x, "00B20114", 0x9000, "700122");
    Check.type(x, "44");
    int had = x.answered();
    x.keep(4);
    check.due("the answer stays", x.answered(), had);
  }

  private static String record(int file, int number) {
    return Check.number(16 * file + number, 1).repeat(file == 4 && number == 3 ? 30 : 2 * file + number);
  }

  private static void open(PurseCard x) {
    Check.send(x, Check.select(0));
    Check.send(x, Check.ready(0));
  }
}
