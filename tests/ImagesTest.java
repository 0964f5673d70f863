/** Promises 43 to 47: images, counts. */
public final class ImagesTest {
  public static void main(String[] args) {
    promise43Image();
    promise44Undo();
    promise45Tear();
    promise46Count();
    promise47Status();
    promise47Unchanged();
    Check.end();
  }

  /** All that can be asked of things, crop, eggs, rules, spots and z, as one text. */
  private static String told(FedHen x) {
    StringBuilder all = new StringBuilder();
    for (int t = 0; t < 4; t++) {
      for (int what = 0; what <= 9; what++) {
        all.append(x.of(t, what)).append(' ');
      }
    }
    for (int i = 0; i < 4; i++) {
      all.append(x.crop(i)).append(' ').append(x.egg(i, 0)).append(' ').append(x.egg(i, 1)).append(' ')
          .append(x.egg(i, 2)).append(' ').append(x.as(i, 0)).append(' ');
    }
    for (int what = 0; what <= 6; what++) {
      all.append(x.now(what)).append(' ');
    }
    return all.append(x.count(1)).append(' ').append(x.count(6)).append(' ').append(x.count(7)).toString();
  }

  private static FedHen busy() {
    FedHen x = Check.hen(Check.CORN, Check.THING, Check.GOLD);
    x.fed(0);
    x.fed(1);
    x.fed(2);
    x.days(2);
    x.hold(0, 2);
    x.rule(1, 5);
    x.lent(1);
    return x;
  }

  private static void muddle(FedHen x) {
    x.thing(6);
    x.change(0, 0, 4);
    x.change(1, 1, 9);
    x.change(2, 2, 77);
    x.change(0, 3, 1);
    x.rule(0, 33);
    x.rule(1, 1);
    x.hold(0, -1);
    x.hold(3, 3);
    x.home(0);
    x.fed(3);
    x.days(7);
    x.seed(99);
  }

  private static void same(String what, String got, String want) {
    Check.due(what + " (told: " + got + ", due: " + want + ")", got.equals(want) ? 1 : 0, 1);
  }

  private static void promise43Image() {
    FedHen x = busy();
    String before = told(x);
    Check.due("image", x.image(), 1);
    same("image changes nothing", told(x), before);
    muddle(x);
    Check.due("it is another one", told(x).equals(before) ? 1 : 0, 0);
    x.undo();
    same("all is as it was", told(x), before);
    muddle(x);
    String later = told(x);
    x.image();
    x.undo();
    same("the latest image", told(x), later);
  }

  private static void promise44Undo() {
    FedHen x = busy();
    Check.due("undo of nothing", x.undo(), Check.NONE);
    x.image();
    String before = told(x);
    muddle(x);
    Check.tape(x, "room 3");
    x.sheet(0, 8, 3);
    Check.due("undo", x.undo(), 3);
    Check.due("the tape stays", x.count(5), 6);
    Check.due("sheets stay", x.write(0, 2, 1), 1);
    muddle(x);
    Check.due("undo again", x.undo(), 3);
    same("the image stays", told(x), before);
    Check.due("the 4th thing's number", x.thing(0), 3);
    Check.due("it is new", x.of(3, 2), 10);
  }

  private static void promise45Tear() {
    FedHen x = busy();
    Check.due("tear nothing", x.tear(), 0);
    x.image();
    x.image();
    Check.due("tear", x.tear(), 1);
    Check.due("tear again", x.tear(), 0);
    Check.due("undo then", x.undo(), Check.NONE);
  }

  private static void promise46Count() {
    FedHen x = busy();
    Check.tape(x, "abc");
    x.hold(9, 0);
    x.change(2, 2, 40);
    int[] due = {3, 3, 1, 2, 60, 3, 1103527590, 2};
    for (int what = 0; what < due.length; what++) {
      Check.due("count " + what, x.count(what), due[what]);
    }
    Check.due("count -1", x.count(-1), Check.BEYOND);
    Check.due("count 8", x.count(8), Check.BEYOND);
  }

  private static void promise47Status() {
    FedHen x = Check.hen(0, 0, 0, 0, 0, 0, 0, 0, 0, 0);
    x.image();
    x.thing(-1);
    x.thing(0);
    x.thing(0);
    x.hold(0, 0);
    x.as(0, 1);
    x.crop(0);
    x.home(0);
    x.home(0);
    x.home(0);
    x.as(1, 1);
    x.sheet(0, 8, -1);
    x.text();
    x.seed(-1000001);
    x.count(6);
    x.undo();
    int[] due = {1, 2, 1, 1, 3, 1, 1};
    for (int which = 0; which <= 6; which++) {
      Check.due("status " + which, x.status(which), due[which]);
    }
    Check.due("status of all", x.status(-1), 10);
    Check.due("status 7", x.status(7), Check.BEYOND);
    Check.due("status -2", x.status(-2), Check.BEYOND);
    Check.due("they are counted", x.status(0), 3);
    Check.due("all of them", x.status(-1), 12);
  }

  /** An act that answers a finding changes nothing else. */
  private static void promise47Unchanged() {
    FedHen x = busy();
    String before = told(x);
    x.fed(1);
    x.fed(9);
    x.home(2);
    x.change(0, 2, 100);
    x.rule(0, 0);
    x.days(61);
    x.lent(13);
    x.hold(0, 9);
    x.undo();
    same("findings change nothing", told(x), before);
  }
}
