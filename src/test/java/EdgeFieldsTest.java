/** The edges of the promises 10 to 13: numbers and references of objects. */
public final class EdgeFieldsTest {
  private static final String NO_TRANSACTION = "Throws `IllegalArgumentException` if there is no such transaction";
  private static final String NO_VALUE =
      "Throws `IllegalArgumentException` if there is no such transaction, or the value is out of range";
  private static final String NO_OBJECT = "Throws `IndexOutOfBoundsException` if there is no such object";
  private static final String NO_OBJECT_FOR_EITHER =
      "Throws `IndexOutOfBoundsException` if there is no such object, for either";
  private static final String NOT_HELD =
      "Throws `IllegalStateException` if the transaction is not open, or the transaction does not hold the object";
  private static final String NOT_HELD_BOTH =
      "Throws `IllegalStateException` if the transaction is not open, or it does not hold both objects";
  private static final String NO_FIELD =
      "Throws `NoSuchElementException` if the object has no such field of this type, by its kind";
  private static final String NO_FIELD_OF_THESE =
      "Throws `NoSuchElementException` if the object has no such field of these types, by its kind";
  private static final String CANNOT_CHANGE = "Throws `UnsupportedOperationException` if its page cannot be changed by "
      + "the transaction, or memory or pages are full";
  private static final String CANNOT_READ = "Throws `UnsupportedOperationException` if memory is full, or the object "
      + "must be converted, and its page cannot be changed, or pages are full";

  /** One of the four calls: 'n' of setNumber and number, 'r' of link and follow. */
  private interface Call {
    long on(MarrowHeap x, int transaction, int object, int field);
  }

  private static final Call SET = (x, t, object, field) -> x.setNumber(t, object, field, 1);
  private static final Call NUMBER = (x, t, object, field) -> x.number(t, object, field);
  private static final Call LINK = (x, t, object, field) -> x.link(t, object, field, -1);
  private static final Call FOLLOW = (x, t, object, field) -> x.follow(t, object, field);

  public static void main(String[] args) {
    setNumberTakesItsRange();
    setNumberRefusesTransactionsThatAreNotThere();
    setNumberRefusesValuesOutOfRange();
    setNumberRefusesObjectsThatAreNotThere();
    setNumberRefusesWhatIsNotOpen();
    setNumberRefusesWhatIsNotHeld();
    setNumberRefusesOtherFields();
    setNumberRefusesPagesThatAnotherChanged();
    setNumberRefusesWithoutMemory();
    setNumberRefusesWithoutPages();
    numberRefusesTransactionsThatAreNotThere();
    numberRefusesObjectsThatAreNotThere();
    numberRefusesWhatIsNotOpen();
    numberRefusesWhatIsNotHeld();
    numberRefusesOtherFields();
    numberRefusesWithoutMemory();
    numberRefusesToConvertInPagesThatAnotherChanged();
    numberRefusesWithoutPages();
    linkTakesTargetsAndNone();
    linkRefusesTransactionsThatAreNotThere();
    linkRefusesObjectsThatAreNotThere();
    linkRefusesTargetsThatAreNotThere();
    linkRefusesWhatIsNotOpen();
    linkRefusesObjectsThatAreNotHeld();
    linkRefusesTargetsThatAreNotHeld();
    linkRefusesOtherFields();
    linkRefusesPagesThatAnotherChanged();
    linkRefusesWithoutMemory();
    linkRefusesWithoutPages();
    followRefusesTransactionsThatAreNotThere();
    followRefusesObjectsThatAreNotThere();
    followRefusesWhatIsNotOpen();
    followRefusesWhatIsNotHeld();
    followRefusesOtherFields();
    followRefusesWithoutMemory();
    followRefusesToConvertInPagesThatAnotherChanged();
    followRefusesWithoutPages();
    Check.end("EdgeFieldsTest");
  }

  // ---- what the four share

  private static int fieldOf(Call call) {
    return call == SET || call == NUMBER ? 0 : 1;
  }

  private static void refusesTransactions(Call call) {
    for (int t : new int[] {-1, 3, -2, 4, Edge.LEAST, Edge.GREATEST}) {
      Edge.refuses(Scene.SMALL, "transaction " + t, Edge.ARGUMENT, x -> call.on(x, t, 0, fieldOf(call)));
      Edge.refuses(Scene.EMPTY, "empty, transaction " + t, Edge.ARGUMENT, x -> call.on(x, t, 0, 0));
    }
    Edge.refuses(Scene.FULL, "full, transaction 3", Edge.ARGUMENT, x -> call.on(x, 3, 99, 0));
  }

  private static void refusesObjects(Call call) {
    for (int object : new int[] {5, 7, 8, 99, 100, -1, -2, Edge.LEAST, Edge.GREATEST}) {
      Edge.refuses(Scene.SMALL, "object " + object, Edge.INDEX, x -> call.on(x, 0, object, fieldOf(call)));
    }
    Edge.refuses(Scene.EMPTY, "object 0 of an empty database", Edge.INDEX, x -> call.on(x, 0, 0, 0));
    Edge.refuses(Scene.FULL, "object 100 of a full database", Edge.INDEX, x -> call.on(x, 0, 100, 0));
    Scene last = Scene.of(() -> {
      MarrowHeap x = Scene.SMALL.fresh();
      x.commit(1);
      x.begin(1);
      x.make(1, 0);
      return x;
    });
    Edge.answers(last, "the last object", fieldOf(call) == 0 ? 0 : -1, x -> call.on(x, 1, 8, fieldOf(call)));
  }

  private static void refusesClosed(Call call) {
    Edge.refuses(Scene.SMALL, "not open", Edge.STATE, x -> call.on(x, 2, 0, fieldOf(call)));
    for (int way = 0; way < 4; way++) {
      int it = way;
      Scene scene = Scene.of(() -> {
        MarrowHeap x = Scene.SMALL.fresh();
        switch (it) {
          case 0:
            x.commit(0);
            break;
          case 1:
            x.abort(0);
            break;
          case 2:
            x.crash(0, 9);
            break;
          default:
            x.crash(-1, 0);
            break;
        }
        return x;
      });
      Edge.refuses(scene, "ended in way " + way, Edge.STATE, x -> call.on(x, 0, 0, fieldOf(call)));
    }
  }

  private static void refusesWhatIsNotHeld(Call call) {
    Edge.refuses(Scene.SMALL, "held by none", Edge.STATE, x -> call.on(x, 0, 3, fieldOf(call)));
    Edge.refuses(Scene.SMALL, "held by another", Edge.STATE, x -> call.on(x, 1, 0, fieldOf(call)));
    Edge.refuses(Scene.SMALL, "made by another", Edge.STATE, x -> call.on(x, 0, 6, fieldOf(call)));
    Edge.refuses(Scene.FULL, "full, held by another", Edge.STATE, x -> call.on(x, 0, 99, 0));
    Edge.refuses(Scene.of(() -> {
      MarrowHeap x = Scene.SMALL.fresh();
      x.commit(0);
      x.begin(0);
      return x;
    }), "held before it ended", Edge.STATE, x -> call.on(x, 0, 0, fieldOf(call)));
    Edge.answers(Scene.SMALL, "locked with another", fieldOf(call) == 0 ? 0 : -1,
        x -> call.on(x, 0, 2, fieldOf(call)));
    Edge.answers(Scene.SMALL, "made", fieldOf(call) == 0 ? 0 : -1, x -> call.on(x, 1, 6, fieldOf(call)));
  }

  /** Kind 0 has 0 'n', 1 'r', 2 'w'; 3 is of the kind below, and object 4 has no fields. */
  private static void refusesFields(Call call) {
    int wrong = 1 - fieldOf(call);
    for (int field : new int[] {wrong, 3, 4, 19, 20, -1, -2, Edge.LEAST, Edge.GREATEST}) {
      Edge.refuses(Scene.SMALL, "field " + field, Edge.ELEMENT, x -> call.on(x, 0, 0, field));
    }
    if (fieldOf(call) == 0) {
      Edge.refuses(Scene.SMALL, "a weak one is no number", Edge.ELEMENT, x -> call.on(x, 0, 0, 2));
    } else {
      Edge.answers(Scene.SMALL, "a weak one", -1, x -> call.on(x, 0, 0, 2));
    }
    for (int field = 0; field < 4; field++) {
      int it = field;
      Edge.refuses(Scene.SMALL, "of a kind without fields: " + it, Edge.ELEMENT, x -> call.on(x, 1, 4, it));
    }
    Scene later = Scene.of(() -> {
      MarrowHeap x = Scene.SMALL.fresh();
      x.addField(0, "nr".charAt(fieldOf(call)));
      x.addField(1, "nr".charAt(fieldOf(call)));
      return x;
    });
    Edge.answers(later, "a field that its kind got later", -fieldOf(call), x -> call.on(x, 0, 0, 4));
    Edge.refuses(later, "one that a kind below got", Edge.ELEMENT, x -> call.on(x, 0, 0, 5));
    Edge.refuses(later, "behind the last", Edge.ELEMENT, x -> call.on(x, 0, 0, 6));
  }

  /** Transaction 0 holds object 3, whose page transaction 1 has changed. */
  private static Scene pageOfAnother(boolean mustConvert) {
    return Scene.of(() -> {
      MarrowHeap x = Scene.SMALL.fresh();
      x.lock(0, 3);
      if (mustConvert) {
        x.addField(0, 'n');
      }
      return x;
    });
  }

  private static void refusesPagesOfAnother(Call call) {
    long none = -fieldOf(call);
    Edge.refuses(pageOfAnother(false), "changed by another", Edge.OPERATION, x -> call.on(x, 0, 3, fieldOf(call)));
    Edge.refuses(pageOfAnother(true), "and to be converted", Edge.OPERATION, x -> call.on(x, 0, 3, fieldOf(call)));
    if (fieldOf(call) == 0) {
      Edge.refuses(pageOfAnother(false), "another field", Edge.OPERATION, x -> call.on(x, 0, 3, 3));
    }
    for (boolean keep : new boolean[] {true, false}) {
      Edge.answers(Scene.of(() -> {
        MarrowHeap x = pageOfAnother(false).fresh();
        if (keep) {
          x.commit(1);
        } else {
          x.abort(1);
        }
        return x;
      }), "the other has ended", none, x -> call.on(x, 0, 3, fieldOf(call)));
    }
    Edge.answers(pageOfAnother(false), "the one that changed it may", none, x -> call.on(x, 1, 6, fieldOf(call)));
    Edge.answers(pageOfAnother(false), "its own page", none, x -> call.on(x, 0, 2, fieldOf(call)));
  }

  private static void refusesToConvert(Call call) {
    long none = -fieldOf(call);
    Edge.answers(pageOfAnother(false), "read, as it need not be converted", none,
        x -> call.on(x, 0, 3, fieldOf(call)));
    Edge.refuses(pageOfAnother(true), "to be converted", Edge.OPERATION, x -> call.on(x, 0, 3, fieldOf(call)));
    Edge.answers(Scene.of(() -> {
      MarrowHeap x = pageOfAnother(true).fresh();
      x.commit(1);
      return x;
    }), "the other has ended", none, x -> call.on(x, 0, 3, fieldOf(call)));
    Edge.answers(Scene.of(() -> {
      MarrowHeap x = pageOfAnother(true).fresh();
      x.setRoot(1, 3, 6);
      x.commit(1);
      x.number(0, 3, 0);
      x.commit(0);
      x.begin(0);
      x.lock(0, 3);
      x.begin(1);
      x.lock(1, 6);
      x.setNumber(1, 6, 0, 1);
      return x;
    }), "it has been converted", none, x -> call.on(x, 0, 3, fieldOf(call)));
  }

  /** Object 16 is the first of page 4; in a chain each but the first refers to the one before it. */
  private static void refusesWithoutMemory(Call call) {
    long answer = fieldOf(call) == 0 ? 0 : 15;
    for (int changed = 0; changed <= 4; changed++) {
      int count = changed;
      Scene scene = Scene.of(() -> Scene.chain(5, count));
      if (changed < 4) {
        Edge.answers(scene, changed + " pages are changed", answer, x -> call.on(x, 0, 16, fieldOf(call)));
      } else {
        Edge.refuses(scene, "4 pages are changed", Edge.OPERATION, x -> call.on(x, 0, 16, fieldOf(call)));
        Edge.answers(scene, "but a page in memory", fieldOf(call) == 0 ? 4 : 11,
            x -> call.on(x, 0, 12, fieldOf(call)));
      }
      if (changed < 3) {
        Edge.answers(moving(count), changed + " are changed, and it moves", answer,
            x -> call.on(x, 0, 16, fieldOf(call)));
      } else {
        Edge.refuses(moving(count), changed + " are changed, and it would move", Edge.OPERATION,
            x -> call.on(x, 0, 16, fieldOf(call)));
      }
    }
    Edge.answers(Scene.of(() -> {
      MarrowHeap x = Scene.chain(5, 4);
      x.commit(0);
      x.begin(0);
      x.lock(0, 19);
      return x;
    }), "committed", answer, x -> call.on(x, 0, 16, fieldOf(call)));
  }

  private static Scene moving(int changed) {
    return Scene.of(() -> {
      MarrowHeap x = Scene.chain(5, changed);
      x.addField(0, 'n');
      return x;
    });
  }

  /** All objects of full pages must be converted: they find no room but in another page. */
  private static void refusesWithoutPages(Call call) {
    Scene twelve = Scene.of(() -> {
      MarrowHeap x = Scene.chain(12, 0);
      x.addField(0, 'w');
      return x;
    });
    for (int object : new int[] {0, 1, 46, 47}) {
      Edge.refuses(twelve, "12 full pages, object " + object, Edge.OPERATION,
          x -> call.on(x, 0, object, fieldOf(call)));
    }
    Scene eleven = Scene.of(() -> {
      MarrowHeap x = Scene.chain(11, 0);
      x.addField(0, 'w');
      return x;
    });
    MarrowHeap x = Edge.answers(eleven, "11 full pages", fieldOf(call) == 0 ? 0 : 42,
        y -> call.on(y, 0, 43, fieldOf(call)));
    Edge.same("into the twelfth", x.pageOf(43), 11);
    Edge.answers(Scene.of(() -> Scene.chain(12, 0)), "12 full pages, not to be converted",
        fieldOf(call) == 0 ? 0 : 46, y -> call.on(y, 0, 47, fieldOf(call)));
    Scene other = Scene.of(() -> {
      MarrowHeap y = twelfthOfAnother();
      y.addField(0, 'w');
      return y;
    });
    Edge.refuses(other, "the one with room is changed by another", Edge.OPERATION,
        y -> call.on(y, 0, 43, fieldOf(call)));
  }

  private static MarrowHeap twelfthOfAnother() {
    MarrowHeap x = Scene.chain(11, 0);
    x.begin(1);
    x.make(1, 1);
    return x;
  }

  // ---- promise 10

  private static void setNumberTakesItsRange() {
    Edge.says(10, "`value`: the value, -9999 to 9999");
    for (int value : new int[] {-9999, -9998, -1, 0, 1, 9998, 9999}) {
      MarrowHeap x = Edge.answers(Scene.SMALL, "value " + value, 7, y -> y.setNumber(0, 1, 0, value));
      Edge.same("read", x.number(0, 1, 0), value);
      Edge.same("counted", x.countOf(1, value) > 0 ? 1 : 0, 1);
      Edge.same("before the next", x.setNumber(0, 1, 0, 3), value);
    }
  }

  private static void setNumberRefusesTransactionsThatAreNotThere() {
    Edge.says(10, NO_VALUE, "if there is no such transaction");
    refusesTransactions(SET);
  }

  private static void setNumberRefusesValuesOutOfRange() {
    Edge.says(10, NO_VALUE, "or the value is out of range");
    for (int value : new int[] {-10000, 10000, -10001, 10001, 65536, -65536, Edge.LEAST, Edge.GREATEST}) {
      Edge.refuses(Scene.SMALL, "value " + value, Edge.ARGUMENT, x -> x.setNumber(0, 1, 0, value));
      Edge.refuses(Scene.EMPTY, "empty, value " + value, Edge.ARGUMENT, x -> x.setNumber(0, 0, 0, value));
    }
  }

  private static void setNumberRefusesObjectsThatAreNotThere() {
    Edge.says(10, NO_OBJECT);
    refusesObjects(SET);
  }

  private static void setNumberRefusesWhatIsNotOpen() {
    Edge.says(10, NOT_HELD, "if the transaction is not open");
    refusesClosed(SET);
  }

  private static void setNumberRefusesWhatIsNotHeld() {
    Edge.says(10, NOT_HELD, "or the transaction does not hold the object");
    refusesWhatIsNotHeld(SET);
  }

  private static void setNumberRefusesOtherFields() {
    Edge.says(10, NO_FIELD);
    refusesFields(SET);
  }

  private static void setNumberRefusesPagesThatAnotherChanged() {
    Edge.says(10, CANNOT_CHANGE, "if its page cannot be changed by the transaction");
    refusesPagesOfAnother(SET);
  }

  private static void setNumberRefusesWithoutMemory() {
    Edge.says(10, CANNOT_CHANGE, "or memory");
    refusesWithoutMemory(SET);
  }

  private static void setNumberRefusesWithoutPages() {
    Edge.says(10, CANNOT_CHANGE, "or pages are full");
    refusesWithoutPages(SET);
  }

  // ---- promise 11

  private static void numberRefusesTransactionsThatAreNotThere() {
    Edge.says(11, NO_TRANSACTION);
    refusesTransactions(NUMBER);
  }

  private static void numberRefusesObjectsThatAreNotThere() {
    Edge.says(11, NO_OBJECT);
    refusesObjects(NUMBER);
  }

  private static void numberRefusesWhatIsNotOpen() {
    Edge.says(11, NOT_HELD, "if the transaction is not open");
    refusesClosed(NUMBER);
  }

  private static void numberRefusesWhatIsNotHeld() {
    Edge.says(11, NOT_HELD, "or the transaction does not hold the object");
    refusesWhatIsNotHeld(NUMBER);
  }

  private static void numberRefusesOtherFields() {
    Edge.says(11, NO_FIELD);
    refusesFields(NUMBER);
  }

  private static void numberRefusesWithoutMemory() {
    Edge.says(11, CANNOT_READ, "if memory is full");
    refusesWithoutMemory(NUMBER);
  }

  private static void numberRefusesToConvertInPagesThatAnotherChanged() {
    Edge.says(11, CANNOT_READ, "or the object must be converted, and its page cannot be changed");
    refusesToConvert(NUMBER);
  }

  private static void numberRefusesWithoutPages() {
    Edge.says(11, CANNOT_READ, "or pages are full");
    refusesWithoutPages(NUMBER);
  }

  // ---- promise 12

  private static void linkTakesTargetsAndNone() {
    Edge.says(12, "`target`: the object to which it refers then, or -1 for none");
    for (int field = 1; field <= 2; field++) {
      int it = field;
      Edge.answers(Scene.SMALL, "none, field " + it, it == 1 ? 1 : -1, x -> x.link(0, 0, it, -1));
      for (int target = 0; target < 3; target++) {
        int to = target;
        MarrowHeap x = Edge.answers(Scene.SMALL, "target " + to, it == 1 ? 1 : -1, y -> y.link(0, 0, it, to));
        Edge.same("followed", x.follow(0, 0, it), to);
      }
    }
    Edge.answers(Scene.SMALL, "the last", -1, x -> x.link(1, 6, 1, 6));
    Edge.answers(Scene.FULL, "the last of a full database", -1, x -> x.link(2, 92, 2, 99));
  }

  private static void linkRefusesTransactionsThatAreNotThere() {
    Edge.says(12, NO_TRANSACTION);
    refusesTransactions(LINK);
  }

  private static void linkRefusesObjectsThatAreNotThere() {
    Edge.says(12, NO_OBJECT_FOR_EITHER);
    refusesObjects(LINK);
  }

  private static void linkRefusesTargetsThatAreNotThere() {
    Edge.says(12, NO_OBJECT_FOR_EITHER, "for either");
    for (int target : new int[] {5, 7, 8, 99, 100, -2, Edge.LEAST, Edge.GREATEST}) {
      for (int field = 1; field <= 2; field++) {
        int it = field;
        Edge.refuses(Scene.SMALL, "target " + target, Edge.INDEX, x -> x.link(0, 0, it, target));
      }
    }
    Edge.refuses(Scene.FULL, "target 100 of a full database", Edge.INDEX, x -> x.link(2, 92, 2, 100));
    Edge.refuses(Scene.EMPTY, "target 0 of an empty database", Edge.INDEX, x -> x.link(0, 0, 0, 0));
  }

  private static void linkRefusesWhatIsNotOpen() {
    Edge.says(12, NOT_HELD_BOTH, "if the transaction is not open");
    refusesClosed(LINK);
  }

  private static void linkRefusesObjectsThatAreNotHeld() {
    Edge.says(12, NOT_HELD_BOTH, "or it does not hold both objects");
    refusesWhatIsNotHeld(LINK);
    Edge.refuses(Scene.SMALL, "the target is held, the object is not", Edge.STATE, x -> x.link(0, 3, 1, 0));
  }

  private static void linkRefusesTargetsThatAreNotHeld() {
    Edge.says(12, NOT_HELD_BOTH, "both objects");
    for (int target : new int[] {3, 4, 6}) {
      for (int field = 1; field <= 2; field++) {
        int it = field;
        Edge.refuses(Scene.SMALL, "target " + target, Edge.STATE, x -> x.link(0, 0, it, target));
      }
    }
    Edge.answers(Scene.SMALL, "both", -1, x -> x.link(1, 6, 2, 4));
  }

  private static void linkRefusesOtherFields() {
    Edge.says(12, NO_FIELD_OF_THESE);
    refusesFields(LINK);
    Edge.refuses(Scene.SMALL, "a number, to an object", Edge.ELEMENT, x -> x.link(0, 0, 0, 1));
  }

  private static void linkRefusesPagesThatAnotherChanged() {
    Edge.says(12, CANNOT_CHANGE, "if its page cannot be changed by the transaction");
    refusesPagesOfAnother(LINK);
    Edge.answers(pageOfAnother(false), "the target's page need not be changed", 1, x -> x.link(0, 0, 1, 3));
  }

  private static void linkRefusesWithoutMemory() {
    Edge.says(12, CANNOT_CHANGE, "or memory");
    refusesWithoutMemory(LINK);
    Edge.answers(Scene.of(() -> Scene.chain(5, 4)), "the target is not met", 11, x -> x.link(0, 12, 1, 19));
  }

  private static void linkRefusesWithoutPages() {
    Edge.says(12, CANNOT_CHANGE, "or pages are full");
    refusesWithoutPages(LINK);
  }

  // ---- promise 13

  private static void followRefusesTransactionsThatAreNotThere() {
    Edge.says(13, NO_TRANSACTION);
    refusesTransactions(FOLLOW);
  }

  private static void followRefusesObjectsThatAreNotThere() {
    Edge.says(13, NO_OBJECT);
    refusesObjects(FOLLOW);
  }

  private static void followRefusesWhatIsNotOpen() {
    Edge.says(13, NOT_HELD, "if the transaction is not open");
    refusesClosed(FOLLOW);
  }

  private static void followRefusesWhatIsNotHeld() {
    Edge.says(13, NOT_HELD, "or the transaction does not hold the object");
    refusesWhatIsNotHeld(FOLLOW);
  }

  private static void followRefusesOtherFields() {
    Edge.says(13, NO_FIELD_OF_THESE);
    refusesFields(FOLLOW);
  }

  private static void followRefusesWithoutMemory() {
    Edge.says(13, CANNOT_READ, "if memory is full");
    refusesWithoutMemory(FOLLOW);
    Scene far = Scene.of(() -> {
      MarrowHeap x = Scene.chain(5, 4);
      x.link(0, 12, 2, 19);
      return x;
    });
    Edge.answers(far, "the object to which it refers is not met", 19, x -> x.follow(0, 12, 2));
  }

  private static void followRefusesToConvertInPagesThatAnotherChanged() {
    Edge.says(13, CANNOT_READ, "or the object must be converted, and its page cannot be changed");
    refusesToConvert(FOLLOW);
  }

  private static void followRefusesWithoutPages() {
    Edge.says(13, CANNOT_READ, "or pages are full");
    refusesWithoutPages(FOLLOW);
  }
}
