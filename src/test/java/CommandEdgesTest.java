/** The edges of what every command has: promise 4, its form, the statuses and their order. */
public final class CommandEdgesTest {
  /** For each stage a command that is taken there. */
  private static final String[] TAKEN = {"80CA9F36", Check.ready(Cards.AMOUNT),
      Check.seal(0x80, Cards.AMOUNT, Cards.NUMBER), Check.seal(0x40, Cards.AMOUNT, Cards.NUMBER, "3030"), "80CA9F17"};

  public static void main(String[] args) {
    Edges.run(CommandEdgesTest.class);
  }

  @Says(in = "Promise 4", value = "The card takes the row as a command")
  static void sendOfAnEmptyRow(Check check) {
    for (int stage = 0; stage <= 4; stage++) {
      check.sends(Cards.at(stage), "", 0x6700, "");
    }
  }

  @Says(in = "Promise 4", value = "The card takes the row as a command")
  static void sendOfAFullRow(Check check) {
    // 35 bytes of data fill the row: a command, though none that is known
    check.sends(Cards.at(0), "0000000023" + "00".repeat(35), 0x6D00, "");
    check.sends(Cards.at(0), "0100000023" + "00".repeat(35), 0x6E00, "");
    check.sends(Cards.at(0), "0000000022" + "00".repeat(35), 0x6700, "");
    check.sends(Cards.at(0), "0000000024" + "00".repeat(35), 0x6700, "");
  }

  @Says(in = "Promise 4", value = "the row becomes empty")
  static void rowIsEmptyBehindEveryStatus(Check check) {
    String[] commands = {"80CA9F36", "", "80CA9F", "01CA9F36", "80CB9F36", "80CA9F35", Check.ready(1), "80CA9F3601FF",
        "00A40400050102030405", Cards.read(4, 1), Cards.read(2, 3), Check.prove("000A"), Check.prove("0000"),
        Check.prove(Cards.PIN), "5A".repeat(40)};
    for (String command : commands) {
      PurseCard x = Cards.at(2);
      Check.send(x, command);
      check.due("wipe() behind " + command, x.wipe(), 0);
    }
    PurseCard x = Cards.withTries(0);
    Check.send(x, Check.prove(Cards.PIN));
    check.due("wipe() behind 6983", x.wipe(), 0);
  }

  @Says(in = "Promise 4", value = "what the card answers is the ANSWER")
  static void answerIsReplaced(Check check) {
    PurseCard x = Cards.reading("11".repeat(30));
    check.sends(x, "80CA9F17", 0x9000, "9F170103");
    check.sends(x, Cards.read(1, 1), 0x9000, "701E" + "11".repeat(30));
    check.sends(x, "80CA9F36", 0x9000, "9F36020001");
  }

  @Says(in = "Terms, A COMMAND", value = "A COMMAND is: a class, an instruction, P1, P2")
  static void shorterThanFour(Check check) {
    check.sends(Cards.at(0), "80", 0x6700, "");
    check.sends(Cards.at(0), "80CA", 0x6700, "");
    check.sends(Cards.at(0), "80CA9F", 0x6700, "");
    check.sends(Cards.at(0), "80CA9F36", 0x9000, "9F36020000");
  }

  @Says(in = "Terms, A COMMAND", value = "and perhaps a length and so many bytes, at least 1, its DATA")
  static void lengthWithoutBytes(Check check) {
    check.sends(Cards.at(0), "80CA9F3600", 0x6700, "");
    check.sends(Cards.at(0), "80CB9F3600", 0x6700, "");
    check.sends(Cards.at(0), "80CB9F3601", 0x6700, "");
    check.sends(Cards.at(0), "80CB9F36FF", 0x6700, "");
    check.sends(Cards.at(0), "80CB9F360000", 0x6700, "");
  }

  @Says(in = "Terms, A COMMAND", value = "a length and so many bytes, at least 1")
  static void oneByteOfData(Check check) {
    check.sends(Cards.at(0), "80CB9F3601FF", 0x6D00, "");
    check.sends(Cards.at(0), "80CB9F3602FF", 0x6700, "");
    check.sends(Cards.at(0), "80CB9F3600FF", 0x6700, "");
  }

  @Says(in = "Terms, A COMMAND", value = "a length and so many bytes")
  static void oneByteMoreAndOneLess(Check check) {
    for (int size = 2; size <= 35; size++) {
      String bytes = "00".repeat(size);
      check.sends(Cards.at(0), "80CB0000" + Check.number(size, 1) + bytes, 0x6D00, "");
      check.sends(Cards.at(0), "80CB0000" + Check.number(size - 1, 1) + bytes, 0x6700, "");
      check.sends(Cards.at(0), "80CB0000" + Check.number(size + 1, 1) + bytes, 0x6700, "");
    }
  }

  @Says(in = "Terms, A COMMAND", value = "6E00 if the class is not 00 or 80")
  static void everyClass(Check check) {
    for (int c = 0; c < 256; c++) {
      int of00 = c == 0 ? 0x9000 : c == 0x80 ? 0x6D00 : 0x6E00;
      int of80 = c == 0x80 ? 0x9000 : c == 0 ? 0x6D00 : 0x6E00;
      String select = Check.number(c, 1) + Check.select(Cards.NAME).substring(2);
      check.status(select, Check.send(Cards.at(0), select), of00);
      String get = Check.number(c, 1) + "CA9F36";
      check.status(get, Check.send(Cards.at(0), get), of80);
    }
  }

  @Says(in = "Terms, A COMMAND", value = "6D00 if class and instruction are none of these")
  static void everyInstruction(Check check) {
    for (int i = 0; i < 256; i++) {
      String of00 = "00" + Check.number(i, 1) + "FFFF";
      boolean known = i == 0xA4 || i == 0xB2 || i == 0x20;
      check.status(of00, Check.send(Cards.at(2), of00), known ? 0x6A86 : 0x6D00);
      String of80 = "80" + Check.number(i, 1) + "FFFF";
      known = i == 0xA8 || i == 0xCA || i == 0xAE;
      check.status(of80, Check.send(Cards.at(2), of80), known ? 0x6A86 : 0x6D00);
    }
  }

  /** Each has the fault of its place and all later ones too. */
  @Says(in = "Terms, A COMMAND", value = "The first that holds: 6700 if it isn't so")
  static void formComesFirst(Check check) {
    check.sends(Cards.at(0), "01FFFFFF00", 0x6700, "");
    check.sends(Cards.at(0), "01", 0x6700, "");
    check.sends(Cards.at(0), "01A8FFFF02FF", 0x6700, "");
  }

  @Says(in = "Terms, A COMMAND", value = "6E00 if the class is not 00 or 80")
  static void classComesBeforeTheRest(Check check) {
    check.sends(Cards.at(0), "01FFFFFF01FF", 0x6E00, "");
    check.sends(Cards.at(0), "01A8FFFF01FF", 0x6E00, "");
  }

  @Says(in = "Terms, A COMMAND", value = "6D00 if class and instruction are none of these")
  static void instructionComesBeforeTheRest(Check check) {
    check.sends(Cards.at(0), "80A4FFFF01FF", 0x6D00, "");
    check.sends(Cards.at(0), "00A8FFFF01FF", 0x6D00, "");
    check.sends(Cards.at(0), "80A40400" + "07" + Check.name(Cards.NAME), 0x6D00, "");
  }

  @Says(in = "Terms, A COMMAND", value = "6A86 if P1 or P2 is not as said")
  static void parametersComeBeforeTheStage(Check check) {
    check.sends(Cards.at(0), "80A8000101FF", 0x6A86, "");
    check.sends(Cards.at(0), "80A8010001FF", 0x6A86, "");
    check.sends(Cards.at(0), "00B2011501FF", 0x6A86, "");
    check.sends(Cards.at(0), "0020000001FF", 0x6A86, "");
    check.sends(Cards.at(0), "80AE410001FF", 0x6A86, "");
  }

  @Says(in = "Terms, A COMMAND", value = "6985 if the stage is not one of those said")
  static void stageComesBeforeTheSize(Check check) {
    check.sends(Cards.at(0), "80A8000001FF", 0x6985, "");
    check.sends(Cards.at(1), "00B2011401FF", 0x6985, "");
    check.sends(Cards.at(1), "0020008001FF", 0x6985, "");
    check.sends(Cards.at(1), "80AE400001FF", 0x6985, "");
  }

  @Says(in = "Terms, A COMMAND", value = "or for READY also if the counter is 65535")
  static void lastCounterComesBeforeTheSize(Check check) {
    PurseCard x = Cards.at(1);
    x.advance(65535);
    check.sends(x, "80A80000", 0x6985, "");
    check.sends(x, "80A8000001FF", 0x6985, "");
    check.sends(x, "80A80000080000000000000000", 0x6985, "");
    check.sends(x, "80A80001", 0x6A86, "");
  }

  @Says(in = "Terms, A COMMAND", value = "6700 if the data has not the number of bytes said; what is said besides")
  static void sizeComesBeforeTheContents(Check check) {
    check.sends(Cards.at(0), "00A4040004FFFFFFFF", 0x6700, "");
    check.sends(Cards.at(1), "80A8000007" + "00".repeat(7), 0x6700, "");
    check.sends(Cards.at(2), "00B2090C01FF", 0x6700, "");
    check.sends(Cards.withTries(0), "0020008001FF", 0x6700, "");
  }

  @Says(in = "Terms, A COMMAND", value = "6985 if the stage is not one of those said")
  static void everyCommandAtEveryStage(Check check) {
    String[] commands = {Check.select(Cards.NAME), Check.ready(1), Cards.read(2, 1), Check.prove(Cards.PIN),
        "80CA9F36", "80CA9F17"};
    String[] stages = {"01234", "1", "234", "2", "01234", "01234"};
    for (int i = 0; i < commands.length; i++) {
      for (int stage = 0; stage <= 4; stage++) {
        boolean fits = stages[i].indexOf('0' + stage) >= 0;
        check.status(commands[i] + " at stage " + stage, Check.send(Cards.at(stage), commands[i]),
            fits ? 0x9000 : 0x6985);
      }
    }
    for (int stage = 0; stage <= 4; stage++) {
      int ten = stage == 2 ? 0x9000 : stage == 3 ? 0x6700 : 0x6985;
      check.status("SEAL of 10 at stage " + stage, Check.send(Cards.at(stage), Check.seal(0, 1, 1)), ten);
      int twelve = stage == 3 ? 0x9000 : stage == 2 ? 0x6700 : 0x6985;
      check.status("SEAL of 12 at stage " + stage, Check.send(Cards.at(stage), Check.seal(0, 1, 1, "3030")), twelve);
    }
  }

  @Says(in = "Terms, A COMMAND", value = "With another status than 9000 the answer has no bytes.")
  static void noAnswerWithAnotherStatus(Check check) {
    silent(check, Cards.at(2), "80CA9F", 0x6700);
    silent(check, Cards.at(2), "01CA9F36", 0x6E00);
    silent(check, Cards.at(2), "80CB9F36", 0x6D00);
    silent(check, Cards.at(2), "80CA9F35", 0x6A86);
    silent(check, Cards.at(2), Check.ready(1), 0x6985);
    silent(check, Cards.at(2), "80CA9F3601FF", 0x6700);
    silent(check, Cards.at(2), "00A40400050102030405", 0x6A82);
    silent(check, Cards.at(1), "80A80000088305000000000001", 0x6A80);
    silent(check, Cards.at(2), Cards.read(4, 1), 0x6A82);
    silent(check, Cards.at(2), Cards.read(2, 3), 0x6A83);
    silent(check, Cards.at(2), Check.prove("000A"), 0x6A80);
    silent(check, Cards.at(2), Check.prove("0000"), 0x63C2);
    silent(check, Cards.withTries(2), Check.prove("0000"), 0x63C1);
    silent(check, Cards.withTries(1), Check.prove("0000"), 0x63C0);
    silent(check, Cards.withTries(0), Check.prove(Cards.PIN), 0x6983);
  }

  private static void silent(Check check, PurseCard x, String command, int status) {
    Cards.takes(x, "80CA9F36");
    check.due("an answer stands before", x.answered(), 5);
    check.sends(x, command, status, "");
    check.due("answered() behind " + command, x.answered(), 0);
    check.due("answer(0) behind " + command, x.answer(0), -1);
    check.due("find behind " + command, x.find(0x9F36), -1);
  }

  /** A fault is found before anything is done: but for the row and the answer, all stays. */
  @Says(in = "Terms, A COMMAND", value = "The first that holds:")
  static void faultsLeaveTheCardAsItIs(Check check) {
    for (int stage = 0; stage <= 4; stage++) {
      String taken = TAKEN[stage];
      String wrongStage = stage == 1 ? Check.seal(0x80, 9, 9) : Check.ready(9);
      String[] faults = {"", taken + "00", taken.substring(0, 6), "01" + taken.substring(2),
          taken.substring(0, 2) + "00" + taken.substring(4), taken.substring(0, 6) + "01" + taken.substring(8),
          wrongStage, taken.substring(0, 8) + "01FF", "00A40400050102030405"};
      for (String fault : faults) {
        unchanged(check, Cards.at(stage), Cards.at(stage), fault);
      }
    }
  }

  @Says(in = "Terms, A COMMAND", value = "what is said besides")
  static void faultsOfContentsLeaveTheCardAsItIs(Check check) {
    unchanged(check, Cards.at(1), Cards.at(1), "80A80000088305000000000009");
    unchanged(check, Cards.at(1), Cards.at(1), "80A80000088406000000000009");
    for (int stage = 0; stage <= 4; stage++) {
      unchanged(check, Cards.at(stage), Cards.at(stage), "00A4040007A0000000010204");
      unchanged(check, Cards.at(stage), Cards.at(stage), "00A4040008A000000001020300");
    }
    for (int stage = 2; stage <= 4; stage++) {
      unchanged(check, Cards.at(stage), Cards.at(stage), Cards.read(1, 1));
      unchanged(check, Cards.at(stage), Cards.at(stage), Cards.read(2, 3));
      unchanged(check, Cards.at(stage), Cards.at(stage), Cards.read(2, 0));
    }
    unchanged(check, Cards.proven(), Cards.proven(), Check.prove("123A"));
    unchanged(check, Cards.proven(), Cards.proven(), "0020008008231234FFFFFFFFFF");
    unchanged(check, Cards.proven(), Cards.proven(), "0020008008241234FFFFFFFFFE");
    unchanged(check, Cards.withTries(0), Cards.withTries(0), Check.prove(Cards.PIN));
    unchanged(check, Cards.withTries(0), Cards.withTries(0), Check.prove("0000"));
  }

  private static void unchanged(Check check, PurseCard x, PurseCard twin, String fault) {
    check.due(fault + " is a fault", Check.send(x, fault) != Check.FINE, true);
    check.due("the card behind " + fault, Exam.inside(x), Exam.inside(twin));
  }
}
