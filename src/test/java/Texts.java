import java.nio.charset.StandardCharsets;

/** Brings texts onto the tape. */
final class Texts {
  private Texts() {
  }

  /** The five numbers that feed() wants for the twenty bytes from a place on, 0 behind the end. */
  static int[] five(byte[] bytes, int from) {
    int[] five = new int[5];
    for (int i = 0; i < 20; i++) {
      int b = from + i < bytes.length ? bytes[from + i] & 255 : 0;
      five[i / 4] |= b << 24 - i % 4 * 8;
    }
    return five;
  }

  static byte[] bytes(String text) {
    return text.getBytes(StandardCharsets.ISO_8859_1);
  }

  /** The tape is the text alone. */
  static void put(RotMoney x, String text) {
    byte[] bytes = bytes(text);
    x.end(0);
    for (int i = 0; i < bytes.length; i += 20) {
      int[] f = five(bytes, i);
      x.feed(f[0], f[1], f[2], f[3], f[4]);
    }
    x.end(bytes.length);
  }

  static int town(RotMoney x, String text) {
    put(x, text);
    return x.town();
  }

  static int book(RotMoney x, String text) {
    put(x, text);
    return x.book();
  }

  static int values(RotMoney x, String text) {
    put(x, text);
    return x.values();
  }
}
