import java.util.Random;

/** A call that is refused changes nothing: of two twins one gets refused calls between, and both answer the same. */
public final class RefusedTest {
  private static final String[] COMMANDS = {Check.select(1), Check.ready(4), "00B2010C", Check.prove("0000"),
      Check.prove("0001"), Check.seal(0x40, 4, 2), Check.seal(0x80, 4, 2), Check.seal(0x40, 4, 2, "3030"),
      "80CA9F36", "80CA9F17", Check.seal(0x80, 5, 2)};

  public static void main(String[] args) {
    Check check = new Check();
    Random random = new Random(5);
    for (int round = 0; round < 600; round++) {
      PurseCard x = new PurseCard(1);
      PurseCard twin = new PurseCard(1);
      for (int n = 0; n < 8; n++) {
        refused(check, x, random.nextInt(11));
        String command = COMMANDS[random.nextInt(4) < 3 ? n : random.nextInt(COMMANDS.length)];
        Check.type(x, command);
        Check.type(twin, command);
        refused(check, x, random.nextInt(11));
        if (random.nextInt(8) == 0) {
          check.due("keep", x.keep(1), twin.keep(1));
        }
        check.due("seal", x.seal(2), twin.seal(2));
        check.status("send", x.send(), twin.send());
        refused(check, x, random.nextInt(11));
        check.due("answer", Check.answer(x), Check.answer(twin));
        check.due("state", state(x), state(twin));
      }
    }
    check.end();
  }

  private static String state(PurseCard x) {
    return x.stage() + " " + x.counter() + " " + x.tries() + " " + x.answered() + " " + x.genuine(4, 2, true) + " "
        + x.genuine(4, 2, false);
  }

  private static void refused(Check check, PurseCard x, int which) {
    switch (which) {
      case 0 -> check.due("put", x.put(256), false);
      case 1 -> check.due("put", x.put(-1), false);
      case 2 -> check.due("keep", x.keep(0), -1);
      case 3 -> check.due("keep", x.keep(5), -1);
      case 4 -> check.due("code", x.code(10000), false);
      case 5 -> check.due("code", x.code(-1), false);
      case 6 -> check.due("advance", x.advance(x.counter() - 1), false);
      case 7 -> check.due("advance", x.advance(65536), false);
      case 8 -> check.due("seal", x.seal(16), -1);
      case 9 -> check.due("pay", x.pay(1, -1, 1, 1, true), -1);
      default -> check.due("pay", x.pay(1, 1, 1, 10000, true), -1);
    }
  }
}
