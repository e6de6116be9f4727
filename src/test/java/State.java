import java.util.ArrayList;
import java.util.List;

/**
 * All that calls can tell of an object, but for how many findings it answered. The asking changes
 * the object and an object has but 512 calls, so that each part is asked of one made anew.
 */
final class State {
  private final List<Integer> answers = new ArrayList<>();

  private State() { }

  static int[] of(Sentences.Made made) {
    State state = new State();
    state.floorAndHand(made.make());
    state.pasts(made.make());
    for (int s = 0; s < 4; s++) state.sheet(made.make(), s);
    return state.answers.stream().mapToInt(Integer::intValue).toArray();
  }

  private void fields(ParquetLayer p) {
    for (int f = 0; f < 64; f++) answers.add(p.has(f));
  }

  private void floorAndHand(ParquetLayer p) {
    fields(p);
    for (int f = 0; f < 64; f++) answers.add(p.partner(f));
    for (int what = 0; what < 3; what++) answers.add(p.all(what));
    for (int s = 0; s < p.all(0); s++) {
      for (int what = 0; what < 5; what++) answers.add(p.told(s, what));
    }
    answers.add(p.rank());
    answers.add(p.count());
  }

  private void pasts(ParquetLayer p) {
    for (int i = 0; i <= 20; i++) {
      answers.add(p.undo());
      answers.add(p.floor(0));
      answers.add(p.floor(1));
      answers.add(p.lack());
      answers.add(p.count());
      answers.add(p.all(0));
      answers.add(p.all(1));
      answers.add(p.rank());
    }
  }

  // A sheet of more than 8 numbers can't be told as planks: half by half it comes to another one.
  private void sheet(ParquetLayer p, int s) {
    for (int i = 0; i < 20; i++) p.loose();
    int t = (s + 1) % 4;
    for (int bits = 8; bits <= 32; bits *= 2) {
      for (int from = 0; from <= 8; from += 8) {
        p.sheet(t, bits, 8);
        int n = 8;
        int copied = p.copy(s, from, t, 0, n);
        while (copied < 0 && n > 0) {
          n--;
          copied = p.copy(s, from, t, 0, n);
        }
        answers.add(copied);
        if (copied >= 0) {
          answers.add(p.planks(t));
          fields(p);
        }
      }
    }
  }
}
