/** Cards made ready for a test by calls of the face alone. */
final class Cards {
  static final int NAME = 0x010203;
  static final int CODE = 1234;
  static final String PIN = "1234";
  static final long AMOUNT = 7;
  static final int NUMBER = 77;
  static final String KEY = "0123456789ABCDEFFEDCBA9876543210";
  /** What SELECT answers. */
  static final String CHOSEN = "6F178407" + Check.name(NAME) + "A50C5004434152449F38039F0206";

  private Cards() {
  }

  /** A card at a stage, with two records in file 2. */
  static PurseCard at(int stage) {
    PurseCard x = new PurseCard(NAME);
    x.key(0x0123456789ABCDEFL, 0xFEDCBA9876543210L);
    x.code(CODE);
    Check.keep(x, 2, "AABB");
    Check.keep(x, 2, "CC");
    String[] steps = {Check.select(NAME), Check.ready(AMOUNT), Check.seal(0x80, AMOUNT, NUMBER),
        Check.seal(0x40, AMOUNT, NUMBER, "3030")};
    for (int i = 0; i < stage; i++) {
      takes(x, steps[i]);
    }
    if (x.stage() != stage) {
      throw new IllegalStateException("stage " + x.stage() + " in place of " + stage);
    }
    return x;
  }

  /** OPEN with the code proven. */
  static PurseCard proven() {
    PurseCard x = at(2);
    takes(x, Check.prove(PIN));
    return x;
  }

  /** SEALED with the code proven. */
  static PurseCard provenAndSealed() {
    PurseCard x = proven();
    takes(x, Check.seal(0x80, AMOUNT, NUMBER));
    return x;
  }

  /** OPEN with the code proven, after so many payments in a row that the card gave alone. */
  static PurseCard alone(int times) {
    PurseCard x = at(0);
    for (int i = 0; i < times; i++) {
      open(x);
      takes(x, Check.prove(PIN));
      takes(x, Check.seal(0x40, AMOUNT, NUMBER));
    }
    open(x);
    takes(x, Check.prove(PIN));
    return x;
  }

  /** OPEN with so many tries left. */
  static PurseCard withTries(int left) {
    PurseCard x = at(2);
    for (int i = 3; i > left; i--) {
      Check.send(x, Check.prove("9876"));
    }
    if (x.tries() != left) {
      throw new IllegalStateException("tries " + x.tries() + " in place of " + left);
    }
    return x;
  }

  /** OPEN, with three records in each of the four files. */
  static PurseCard full() {
    PurseCard x = new PurseCard(NAME);
    for (int file = 1; file <= 4; file++) {
      for (int number = 1; number <= 3; number++) {
        Check.keep(x, file, record(file, number));
      }
    }
    open(x);
    return x;
  }

  /** What full() has kept there. */
  static String record(int file, int number) {
    return Check.number(16 * file + number, 1).repeat(number);
  }

  /** READ has just answered 70 { record }. */
  static PurseCard reading(String record) {
    PurseCard x = new PurseCard(NAME);
    Check.keep(x, 1, record);
    open(x);
    takes(x, read(1, 1));
    return x;
  }

  static void open(PurseCard x) {
    takes(x, Check.select(NAME));
    takes(x, Check.ready(AMOUNT));
  }

  static String read(int file, int number) {
    return "00B2" + Check.number(number, 1) + Check.number(8 * file + 4, 1);
  }

  /** The 9F 27 of a SEAL that has just been answered. */
  static int given(PurseCard x) {
    return x.answer(x.find(0x9F27));
  }

  /** Sends what has to be taken for the test to mean anything. */
  static void takes(PurseCard x, String command) {
    int status = Check.send(x, command);
    if (status != Check.FINE) {
      throw new IllegalStateException(command + " had " + Integer.toHexString(status));
    }
  }
}
