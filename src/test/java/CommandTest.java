/** Promise 4: send, with every command, every fault, and their order. */
public final class CommandTest {
  private static final int NAME = Cards.NAME;

  public static void main(String[] args) {
    Check check = new Check();
    forms(check);
    everyInstruction(check);
    everyParameter(check);
    everySize(check);
    orderOfFaults(check);
    select(check);
    ready(check);
    read(check);
    prove(check);
    get(check);
    rowIsEmptied(check);
    check.end();
  }

  private static void forms(Check check) {
    PurseCard x = new PurseCard(NAME);
    String[] wrong = {"", "00", "80CA", "80CA9F", "80CA9F3600", "80CA9F3601", "80CA9F36FF", "80CA9F360001",
        "80CA9F360201", "80CA9F36010102", "00A4040000", "00A4040007A00000000102", "00A4040006" + Check.name(NAME),
        "FFFFFFFFFF", "01020300FF05", "0000000023" + "00".repeat(34), "0000000022" + "00".repeat(35)};
    for (String command : wrong) {
      check.sends(x, command, 0x6700, "");
    }
    check.sends(x, "0000000023" + "00".repeat(35), 0x6D00, "");
    check.sends(x, "80CA9F3601AA", 0x6700, "");
    check.sends(x, "80CA9F36", 0x9000, "9F36020000");
  }

  private static void everyInstruction(Check check) {
    for (int stage = 0; stage <= 4; stage++) {
      for (int c = 0; c < 256; c++) {
        for (int i = 0; i < 256; i++) {
          if (c != 0 && c != 0x80 && i % 16 != 4 && i % 16 != 10) {
            continue;
          }
          int both = 256 * c + i;
          boolean known = both == 0xA4 || both == 0xB2 || both == 0x20 || both == 0x80A8 || both == 0x80CA
              || both == 0x80AE;
          int status = c != 0 && c != 0x80 ? 0x6E00 : known ? 0x6A86 : 0x6D00;
          check.status(Check.number(both, 2), Check.send(fresh(stage), Check.number(both, 2) + "FFFF"), status);
        }
      }
    }
  }

  private static final PurseCard[] KEPT = new PurseCard[5];
  private static final int[] USED = new int[5];

  /** One object for many calls that change nothing, never for more than 512 of them. */
  private static PurseCard fresh(int stage) {
    if (KEPT[stage] == null || USED[stage] >= 18) {
      KEPT[stage] = Cards.at(stage);
      USED[stage] = 0;
    }
    USED[stage]++;
    return KEPT[stage];
  }

  private static void everyParameter(Check check) {
    String[] commands = {"00A4", "80A8", "00B2", "0020", "80CA", "80AE"};
    for (int p = 0; p < 65536; p++) {
      int p1 = p / 256;
      int p2 = p % 256;
      boolean[] right = {p == 0x0400, p == 0, p2 % 8 == 4, p == 0x0080, p == 0x9F36 || p == 0x9F17,
          p == 0 || p == 0x4000 || p == 0x8000};
      for (int i = 0; i < commands.length; i++) {
        if (p2 % 16 > 7 && p2 != 0x17 && p1 % 16 != 15) {
          continue;
        }
        // 17 bytes are too many for each of them, so that nothing changes
        int got = Check.send(fresh(i == 1 ? 1 : 2), commands[i] + Check.number(p, 2) + "11" + "00".repeat(17));
        check.status(commands[i] + Check.number(p, 2), got, right[i] ? 0x6700 : 0x6A86);
      }
    }
  }

  private static void everySize(Check check) {
    String[] commands = {"00A40400", "80A80000", "00B20114", "00200080", "80CA9F36", "80CA9F17", "80AE0000",
        "80AE0000"};
    int[] stages = {0, 1, 2, 2, 0, 4, 2, 3};
    int[] least = {5, 8, 0, 8, 0, 0, 10, 12};
    int[] most = {16, 8, 0, 8, 0, 0, 10, 12};
    for (int i = 0; i < commands.length; i++) {
      for (int size = 0; size <= 35; size++) {
        String data = size == 0 ? "" : Check.number(size, 1) + "00".repeat(size);
        int got = Check.send(Cards.at(stages[i]), commands[i] + data);
        check.due(commands[i] + " with " + size, got != 0x6700, size >= least[i] && size <= most[i]);
      }
    }
  }

  private static void orderOfFaults(Check check) {
    check.sends(Cards.at(0), "0101FFFF00", 0x6700, "");
    check.sends(Cards.at(0), "01A4FFFF", 0x6E00, "");
    check.sends(Cards.at(0), "80A4FFFF", 0x6D00, "");
    check.sends(Cards.at(0), "00A8FFFF", 0x6D00, "");
    check.sends(Cards.at(0), "80A80001", 0x6A86, "");
    check.sends(Cards.at(0), "80A80100", 0x6A86, "");
    check.sends(Cards.at(0), "80A80000", 0x6985, "");
    check.sends(Cards.at(1), "80A80000", 0x6700, "");
    check.sends(Cards.at(1), "80A80000088206000000000007", 0x6A80, "");
    int[][] stages = {{0x80A8, 1, 1}, {0x00B2, 2, 4}, {0x0020, 2, 2}, {0x80AE, 2, 3}, {0x00A4, 0, 4}, {0x80CA, 0, 4}};
    String[] parameters = {"0000", "0114", "0080", "4000", "0400", "9F36"};
    for (int i = 0; i < stages.length; i++) {
      for (int stage = 0; stage <= 4; stage++) {
        String command = Check.number(stages[i][0], 2) + parameters[i] + "0101";
        boolean fits = stage >= stages[i][1] && stage <= stages[i][2];
        check.sends(Cards.at(stage), command, fits ? 0x6700 : 0x6985, "");
      }
    }
    // READY with the last counter: the stage comes before the data
    PurseCard x = Cards.at(1);
    x.advance(65535);
    check.sends(x, "80A80000", 0x6985, "");
    check.sends(x, Check.ready(7), 0x6985, "");
    check.due("stage()", x.stage(), 1);
    check.due("counter()", x.counter(), 65535);
  }

  private static void select(Check check) {
    for (int stage = 0; stage <= 4; stage++) {
      for (int size = 5; size <= 7; size++) {
        PurseCard x = Cards.at(stage);
        check.sends(x, "00A40400" + Check.number(size, 1) + Check.name(NAME).substring(0, 2 * size), 0x9000,
            Cards.CHOSEN);
        check.due("stage()", x.stage(), 1);
      }
      PurseCard x = Cards.at(stage);
      check.sends(x, "00A4040008" + Check.name(NAME) + "00", 0x6A82, "");
      check.sends(x, "00A4040010" + Check.name(NAME) + "00".repeat(9), 0x6A82, "");
      check.sends(x, "00A4040011" + Check.name(NAME) + "00".repeat(10), 0x6700, "");
      check.sends(x, "00A4040004" + Check.name(NAME).substring(0, 8), 0x6700, "");
      check.sends(x, "00A40400050102030405", 0x6A82, "");
      for (int i = 0; i < 7; i++) {
        int[] other = Check.bytes(Check.name(NAME));
        other[i] ^= 1;
        check.sends(x, "00A4040007" + Check.hex(other), 0x6A82, "");
      }
      check.due("stage()", x.stage(), stage);
    }
  }

  private static void ready(Check check) {
    PurseCard x = Cards.at(1);
    check.sends(x, "80A80000088305000000000007", 0x6A80, "");
    check.sends(x, "80A80000088206000000000007", 0x6A80, "");
    check.sends(x, "80A80000080683000000000007", 0x6A80, "");
    check.due("counter()", x.counter(), 0);
    check.due("stage()", x.stage(), 1);
    check.sends(x, Check.ready(7), 0x9000, "8006180010010200");
    check.due("counter()", x.counter(), 1);
    check.due("stage()", x.stage(), 2);
    check.sends(x, Check.ready(7), 0x6985, "");
    check.due("counter()", x.counter(), 1);
    // the code is not proven any more
    check.sends(x, Check.prove("1234"), 0x9000, "");
    check.sends(x, Check.select(NAME), 0x9000, Cards.CHOSEN);
    check.sends(x, Check.ready(8), 0x9000, "8006180010010200");
    check.sends(x, Check.seal(0x40, 8, 5), 0x9000, Check.sealed(Cards.KEY, 8, 5, 2, 0x80, false));
    PurseCard y = Cards.at(1);
    y.advance(65534);
    check.sends(y, Check.ready(7), 0x9000, "8006180010010200");
    check.due("counter()", y.counter(), 65535);
  }

  private static void read(Check check) {
    for (int stage = 2; stage <= 4; stage++) {
      PurseCard x = Cards.at(stage);
      check.sends(x, "00B20114", 0x9000, "7002AABB");
      check.sends(x, "00B20214", 0x9000, "7001CC");
      check.sends(x, "00B20314", 0x6A83, "");
      check.sends(x, "00B20014", 0x6A83, "");
      check.sends(x, "00B2FF14", 0x6A83, "");
      check.sends(x, "00B2010C", 0x6A82, "");
      check.sends(x, "00B2011C", 0x6A82, "");
      check.sends(x, "00B20124", 0x6A82, "");
      check.sends(x, "00B2000C", 0x6A82, "");
      check.sends(x, "00B20104", 0x6A82, "");
      check.sends(x, "00B2012C", 0x6A82, "");
      check.sends(x, "00B201FC", 0x6A82, "");
      check.sends(x, "00B20115", 0x6A86, "");
      check.sends(x, "00B20110", 0x6A86, "");
      check.sends(x, "00B201140100", 0x6700, "");
      check.due("stage()", x.stage(), stage);
    }
  }

  private static void prove(Check check) {
    PurseCard x = Cards.at(2);
    String[] wrong = {"0020008008251234FFFFFFFFFF", "0020008008241234FFFFFFFFFE", "0020008008241234FEFFFFFFFF",
        "0020008008241234FFFF00FFFF", Check.prove("A234"), Check.prove("1A34"), Check.prove("12A4"),
        Check.prove("123A"), Check.prove("F234"), Check.prove("123F")};
    for (String command : wrong) {
      check.sends(x, command, 0x6A80, "");
      check.due("tries()", x.tries(), 3);
    }
    check.sends(x, Check.prove("1235"), 0x63C2, "");
    check.sends(x, Check.prove("2134"), 0x63C1, "");
    check.sends(x, Check.prove("1234"), 0x9000, "");
    check.due("tries()", x.tries(), 3);
    check.sends(x, Check.prove("0000"), 0x63C2, "");
    check.sends(x, Check.prove("9999"), 0x63C1, "");
    check.sends(x, Check.prove("0234"), 0x63C0, "");
    check.due("tries()", x.tries(), 0);
    check.sends(x, Check.prove("1234"), 0x6983, "");
    check.sends(x, Check.prove("A234"), 0x6983, "");
    check.sends(x, "0020008001FF", 0x6700, "");
    check.due("tries()", x.tries(), 0);
    check.due("stage()", x.stage(), 2);
    x.code(1234);
    check.sends(x, Check.prove("1234"), 0x9000, "");
    // a wrong one takes the proof back, one that can't be read does not
    PurseCard y = Cards.at(2);
    Check.send(y, Check.prove("1234"));
    Check.send(y, Check.prove("4321"));
    check.sends(y, Check.seal(0x80, 7, 5), 0x9000, Check.sealed(Cards.KEY, 7, 5, 1, 0x80, false));
    PurseCard z = Cards.at(2);
    Check.send(z, Check.prove("1234"));
    Check.send(z, Check.prove("123A"));
    check.sends(z, Check.seal(0x80, 7, 5), 0x9000, Check.sealed(Cards.KEY, 7, 5, 1, 0x80, true));
  }

  private static void get(Check check) {
    for (int stage = 0; stage <= 4; stage++) {
      PurseCard x = Cards.at(stage);
      x.advance(0xABCD);
      check.sends(x, "80CA9F36", 0x9000, "9F3602ABCD");
      check.sends(x, "80CA9F17", 0x9000, "9F170103");
      check.sends(x, "80CA9F26", 0x6A86, "");
      check.sends(x, "80CA9E36", 0x6A86, "");
      check.due("stage()", x.stage(), stage);
    }
    PurseCard y = Cards.at(2);
    Check.send(y, Check.prove("0000"));
    check.sends(y, "80CA9F17", 0x9000, "9F170102");
  }

  private static void rowIsEmptied(Check check) {
    String[] commands = {"80CA9F36", "80CA9F", "FFCA9F36", "00A40400050102030405"};
    for (String command : commands) {
      PurseCard x = new PurseCard(NAME);
      Check.send(x, command);
      check.due("wipe() behind " + command, x.wipe(), 0);
    }
  }
}
