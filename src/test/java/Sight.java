import java.util.ArrayList;
import java.util.List;

/** All that can be seen of an object from outside, so that a test can tell whether a call has changed anything. */
final class Sight {
  private Sight() {
  }

  /** Some 110 calls and more; the object is spent by it (images are gone back to, the text is read). */
  static List<Integer> of(ChalkedDoors x) {
    List<Integer> seen = new ArrayList<>();
    seen.add(x.fault());
    for (int what = 0; what < 12; what++) {
      seen.add(x.told(what));
    }
    for (int c = 0; c < 4; c++) {
      for (int what = 0; what < 5; what++) {
        seen.add(x.chalk(c, what));
      }
    }
    seen.add(x.judge());
    seen.add(x.first(-1));
    seen.add(x.first(-2));
    addScene(seen, x);
    for (int image = 0; image < 2; image++) {
      seen.add(x.goBack(image));
      addScene(seen, x);
    }
    seen.add(x.tear());
    seen.add(x.street());
    seen.add(x.fault());
    return seen;
  }

  /** What an image keeps. */
  private static void addScene(List<Integer> seen, ChalkedDoors x) {
    int doors = x.told(0);
    for (int d = 0; d < doors; d++) {
      seen.add(x.door(d, 0));
      seen.add(x.door(d, 1));
    }
    seen.add(x.told(6));
    seen.add(x.told(7));
    seen.add(x.seed(0));
  }
}
