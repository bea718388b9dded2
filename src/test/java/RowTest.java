/** Promises 1, 2, 3, 5 and 6: a new object, put, wipe, answered, answer. */
public final class RowTest {
  public static void main(String[] args) {
    Check check = new Check();
    newObject(check);
    names(check);
    puts(check);
    wipes(check);
    answers(check);
    check.end();
  }

  private static void newObject(Check check) {
    PurseCard x = new PurseCard(5);
    check.due("new answered()", x.answered(), 0);
    check.due("new answer(0)", x.answer(0), -1);
    check.due("new find", x.find(0x6F), -1);
    check.due("new genuine", x.genuine(0, 0, false), false);
    check.due("new stage()", x.stage(), 0);
    check.due("new counter()", x.counter(), 0);
    check.due("new tries()", x.tries(), 3);
    check.due("new wipe()", x.wipe(), 0);
    check.due("new keep(1)", x.keep(1), -1);
    check.due("new seal(0)", x.seal(0), Integer.parseInt(Check.mac(Check.NO_KEY, "").substring(0, 2), 16));
    check.status("new send()", x.send(), 0x6700);
    check.sends(x, Check.select(5), 0x9000, "6F178407" + Check.name(5) + "A50C5004434152449F38039F0206");
    check.sends(x, Check.ready(0), 0x9000, "80021800");
    check.sends(x, Check.prove("0000"), 0x9000, "");
  }

  private static void names(Check check) {
    int[] names = {0, 1, 255, 256, 0x123456, 0xFFFFFF, 0x1000000, 0x7FABCDEF, -1, -2, Integer.MIN_VALUE,
        Integer.MAX_VALUE, 0x80010203};
    for (int name : names) {
      PurseCard x = new PurseCard(name);
      String ending = String.format("%08X", name).substring(2);
      check.sends(x, "00A4040007A0000000" + ending, 0x9000,
          "6F178407A0000000" + ending + "A50C5004434152449F38039F0206");
    }
  }

  private static void puts(Check check) {
    PurseCard x = new PurseCard(0);
    int[] wrong = {-1, 256, 257, -256, Integer.MIN_VALUE, Integer.MAX_VALUE};
    for (int b : wrong) {
      check.due("put(" + b + ")", x.put(b), false);
    }
    check.due("wipe() behind refused ones", x.wipe(), 0);
    for (int i = 0; i < 40; i++) {
      check.due("put number " + i, x.put(i % 2 == 0 ? 0 : 255), true);
    }
    check.due("put into a full row", x.put(0), false);
    check.due("put of no byte into a full row", x.put(256), false);
    check.due("wipe() of a full row", x.wipe(), 40);
    check.due("put behind wipe", x.put(7), true);
    check.due("wipe()", x.wipe(), 1);
  }

  private static void wipes(Check check) {
    PurseCard x = new PurseCard(0);
    Check.type(x, "00A405");
    check.due("wipe()", x.wipe(), 3);
    check.due("wipe() again", x.wipe(), 0);
    check.status("SELECT", Check.send(x, Check.select(0)), 0x9000);
    int had = x.answered();
    Check.type(x, "0102");
    check.due("wipe() behind send", x.wipe(), 2);
    check.due("the answer stays", x.answered(), had);
  }

  private static void answers(Check check) {
    PurseCard x = new PurseCard(0xABCDEF);
    Check.send(x, "80CA9F36");
    check.due("answered()", x.answered(), 5);
    int[] want = {0x9F, 0x36, 2, 0, 0};
    for (int i = 0; i < 5; i++) {
      check.due("answer(" + i + ")", x.answer(i), want[i]);
    }
    int[] none = {5, 6, 32, 33, 40, -1, -2, Integer.MIN_VALUE, Integer.MAX_VALUE};
    for (int i : none) {
      check.due("answer(" + i + ")", x.answer(i), -1);
    }
    Check.type(x, "0102");
    check.due("answered() while typing", x.answered(), 5);
    check.status("a wrong row", x.send(), 0x6700);
    check.due("answered() behind a fault", x.answered(), 0);
    check.due("answer(0) behind a fault", x.answer(0), -1);
  }
}
