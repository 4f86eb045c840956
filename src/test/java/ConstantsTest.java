/** The constants, each with an answer that is one. */
public final class ConstantsTest {
    private static final Due due = new Due();
    private static final String PART = "The constants";

    private static void none() {
        due.sentence(PART, "`NONE = -1`: None.");
        due.is("NONE", CrowdRoll.NONE, -1);
        due.is("underWay(0)", new Roll().underWay(0), -1);
    }

    private static void missing() {
        due.sentence(PART, "`MISSING = -2`: A row that is missing.");
        due.is("MISSING", CrowdRoll.MISSING, -2);
        due.is("turn(0)", new Roll().turn(0), -2);
    }

    private static void beyond() {
        due.sentence(PART, "`BEYOND = -3`: A number beyond.");
        due.is("BEYOND", CrowdRoll.BEYOND, -3);
        due.is("turn(64)", new Roll().turn(64), -3);
    }

    private static void below() {
        due.sentence(PART, "`BELOW = -4`: A count below 0.");
        due.is("BELOW", CrowdRoll.BELOW, -4);
        due.is("copy(0, 0, -1, 0)", Crowds.strangers(1).copy(0, 0, -1, 0), -4);
    }

    private static void kind() {
        due.sentence(PART, "`KIND = -5`: News taken for another kind.");
        due.is("KIND", CrowdRoll.KIND, -5);
        due.is("as(0, 0, 2)", Crowds.strangers(1).as(0, 0, 2), -5);
    }

    private static void copy() {
        due.sentence(PART, "`COPY = -6`: A copy that can't be made.");
        due.is("COPY", CrowdRoll.COPY, -6);
        due.is("copy(0, 0, 1, 0)", Crowds.strangers(1).copy(0, 0, 1, 0), -6);
    }

    private static void nothing() {
        due.sentence(PART, "`NOTHING = -7`: Nothing to be thrown.");
        due.is("NOTHING", CrowdRoll.NOTHING, -7);
        due.is("again()", new Roll().again(), -7);
    }

    private static void down() {
        due.sentence(PART, "`DOWN = -8`: A member that is not UP.");
        Roll x = Crowds.strangers(1);
        x.fall(0);
        due.is("DOWN", CrowdRoll.DOWN, -8);
        due.is("turn(0)", x.turn(0), -8);
    }

    private static void no() {
        due.sentence(PART, "`NO = -9`: Not as told.");
        due.is("NO", CrowdRoll.NO, -9);
        due.is("cut(0, 0)", new Roll().cut(0, 0), -9);
    }

    private static void full() {
        due.sentence(PART, "`FULL = -10`: There is no room.");
        due.is("FULL", CrowdRoll.FULL, -10);
        due.is("turn(0)", Rooms.withLetters(1197).turn(0), -10);
    }

    public static void main(String[] args) {
        none();
        missing();
        beyond();
        below();
        kind();
        copy();
        nothing();
        down();
        no();
        full();
        due.finish();
    }
}
