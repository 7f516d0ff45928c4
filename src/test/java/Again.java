import java.util.function.Supplier;

/** Lets a test ask more than 512 calls: whenever they are used up, the object is made anew in the same way. */
final class Again {
  private final Supplier<Subject> recipe;
  private Subject subject;

  Again(Supplier<Subject> recipe) {
    this.recipe = recipe;
    subject = recipe.get();
  }

  Subject subject() {
    if (subject.callsLeft() == 0) {
      subject = recipe.get();
    }
    return subject;
  }
}
