import java.security.GeneralSecurityException;
import java.util.Arrays;
import javax.crypto.Cipher;
import javax.crypto.spec.SecretKeySpec;

/** What the tests share: counting wrong answers, typing rows as hex, and a seal made with the Java library's cipher. */
final class Check {
  static final int FINE = 0x9000;
  static final long MOST = 281474976710655L;
  private int wrong = 0;
  private int looked = 0;

  void due(String what, long got, long want) {
    looked++;
    if (got != want) {
      wrong++;
      System.out.println(what + " answered " + got + ", due is " + want);
    }
  }

  void due(String what, boolean got, boolean want) {
    due(what, got ? 1 : 0, want ? 1 : 0);
  }

  void due(String what, String got, String want) {
    looked++;
    if (!got.equals(want)) {
      wrong++;
      System.out.println(what + " answered '" + got + "', due is '" + want + "'");
    }
  }

  /** A status, shown to the base 16. */
  void status(String what, int got, int want) {
    due(what, String.format("%04X", got), String.format("%04X", want));
  }

  /** Sends a command on x and looks at the status and the answer. */
  void sends(PurseCard x, String command, int status, String answer) {
    status(command, send(x, command), status);
    due(command, answer(x), answer);
  }

  boolean allAsDue() {
    return wrong == 0 && looked > 0;
  }

  void end() {
    System.out.println(looked + " answers looked at, " + wrong + " not as due");
    System.exit(wrong == 0 ? 0 : 1);
  }

  static void type(PurseCard x, String hex) {
    for (int b : bytes(hex)) {
      if (!x.put(b)) {
        throw new IllegalStateException("put refused in " + hex);
      }
    }
  }

  static int send(PurseCard x, String hex) {
    type(x, hex);
    return x.send();
  }

  static int keep(PurseCard x, int file, String hex) {
    type(x, hex);
    return x.keep(file);
  }

  static String answer(PurseCard x) {
    int[] all = new int[x.answered()];
    for (int i = 0; i < all.length; i++) {
      all[i] = x.answer(i);
    }
    return hex(all);
  }

  static int[] bytes(String hex) {
    String digits = hex.replace(" ", "");
    int[] all = new int[digits.length() / 2];
    for (int i = 0; i < all.length; i++) {
      all[i] = Integer.parseInt(digits.substring(2 * i, 2 * i + 2), 16);
    }
    return all;
  }

  static String hex(int[] all) {
    StringBuilder text = new StringBuilder();
    for (int b : all) {
      text.append(String.format("%02X", b));
    }
    return text.toString();
  }

  static String number(long n, int count) {
    StringBuilder text = new StringBuilder();
    for (int i = count - 1; i >= 0; i--) {
      text.append(String.format("%02X", (n >> (8 * i)) & 255));
    }
    return text.toString();
  }

  static String name(int name) {
    return "A0000000" + number(name, 3);
  }

  static String select(int name) {
    return "00A4040007" + name(name);
  }

  static String ready(long amount) {
    return "80A80000088306" + number(amount, 6);
  }

  static String prove(String code) {
    return "002000800824" + code + "FFFFFFFFFF";
  }

  static String seal(int p1, long amount, int number) {
    return "80AE" + number(p1, 1) + "000A" + number(amount, 6) + number(number, 4);
  }

  static String seal(int p1, long amount, int number, String verdict) {
    return "80AE" + number(p1, 1) + "000C" + number(amount, 6) + number(number, 4) + verdict;
  }

  /** What the card has to answer to SEAL. */
  static String sealed(String key, long amount, int number, int counter, int given, boolean proven) {
    String message = number(amount, 6) + number(number, 4) + number(counter, 2) + number(given, 1)
        + (proven ? "01" : "00");
    return "77149F2701" + number(given, 1) + "9F3602" + number(counter, 2) + "9F2608"
        + mac(key, message).substring(0, 16);
  }

  static final String NO_KEY = "00000000000000000000000000000000";

  /** The seal, from the cipher of the Java library. */
  static String mac(String key, String message) {
    int[] m = bytes(message);
    byte[] one = doubled(encipher(key, new byte[16]));
    byte[] two = doubled(one);
    boolean whole = m.length > 0 && m.length % 16 == 0;
    int blocks = whole ? m.length / 16 : m.length / 16 + 1;
    byte[] filled = new byte[16 * blocks];
    for (int i = 0; i < m.length; i++) {
      filled[i] = (byte) m[i];
    }
    if (!whole) {
      filled[m.length] = (byte) 0x80;
    }
    byte[] x = new byte[16];
    for (int b = 0; b < blocks; b++) {
      byte[] block = Arrays.copyOfRange(filled, 16 * b, 16 * b + 16);
      for (int i = 0; i < 16; i++) {
        x[i] ^= block[i];
        if (b == blocks - 1) {
          x[i] ^= whole ? one[i] : two[i];
        }
      }
      x = encipher(key, x);
    }
    int[] all = new int[16];
    for (int i = 0; i < 16; i++) {
      all[i] = x[i] & 255;
    }
    return hex(all);
  }

  /** The first byte of L, the bytes 00 enciphered. */
  static int firstByte(String key) {
    return encipher(key, new byte[16])[0] & 255;
  }

  /** The two bits that go out when L is doubled twice, as 0 .. 3. */
  static int firstBits(String key) {
    return firstByte(key) >> 6;
  }

  private static byte[] encipher(String key, byte[] block) {
    try {
      int[] k = bytes(key);
      byte[] raw = new byte[16];
      for (int i = 0; i < 16; i++) {
        raw[i] = (byte) k[i];
      }
      Cipher cipher = Cipher.getInstance("AES/ECB/NoPadding");
      cipher.init(Cipher.ENCRYPT_MODE, new SecretKeySpec(raw, "AES"));
      return cipher.doFinal(block);
    } catch (GeneralSecurityException e) {
      throw new IllegalStateException(e);
    }
  }

  private static byte[] doubled(byte[] row) {
    java.math.BigInteger n = new java.math.BigInteger(1, row).shiftLeft(1);
    if (n.testBit(128)) {
      n = n.clearBit(128).xor(java.math.BigInteger.valueOf(0x87));
    }
    byte[] all = new byte[16];
    for (int i = 0; i < 16; i++) {
      all[15 - i] = n.shiftRight(8 * i).byteValue();
    }
    return all;
  }
}
