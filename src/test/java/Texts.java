/** Texts of a wanted size. */
final class Texts {
  private Texts() {}

  /** A pair of pairs with so many numerals, and 2 n - 1 nodes. */
  static String tree(int n) {
    return n == 1 ? "1" : "(" + tree(n / 2) + "," + tree(n - n / 2) + ")";
  }

  /** A text with so many nodes that is one atom. */
  static String nodes(int n) {
    return n % 2 == 1 ? tree((n + 1) / 2) : tree(n / 2) + ".1";
  }

  /** A node of such a height, as an atom. */
  static String tall(int height) {
    return "1" + ".1".repeat(height - 1);
  }
}
