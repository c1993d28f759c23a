/** Promise 1, and the constants of the face. */
public final class NewObjectTest {
    public static void main(String[] args) {
        Check check = new Check();
        check.due("INVALID_ARGUMENT", GoalLifts.INVALID_ARGUMENT, -1);
        check.due("ILLEGAL_STATE", GoalLifts.ILLEGAL_STATE, -2);
        check.due("CAPACITY_EXCEEDED", GoalLifts.CAPACITY_EXCEEDED, -3);
        check.due("NONE", GoalLifts.NONE, -9);
        GoalLifts lifts = new GoalLifts();
        for (int what = 0; what <= 13; what++) {
            check.due("count(" + what + ") of a new object", lifts.count(what), 0);
        }
        check.due("car(0, 0)", lifts.car(0, 0), Check.INVALID);
        check.due("caller(0, 0)", lifts.caller(0, 0), Check.INVALID);
        check.due("group(0, 0)", lifts.group(0, 0), Check.NONE);
        check.due("undo()", lifts.undo(), Check.STATE);
        for (int hour = 0; hour < 24; hour++) {
            check.due("setAwake(" + hour + ", 5) at first", lifts.setAwake(hour, 5), 5);
        }
        GoalLifts other = new GoalLifts();
        other.addCar(0, 5, 1);
        other.call(0, 5);
        check.due("count(2) of one while another has a car", lifts.count(2), 0);
        check.due("count(3) of one while another has a caller", lifts.count(3), 0);
        check.end("NewObjectTest");
    }
}
