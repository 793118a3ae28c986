/** Promises 13 and 14: type, clearText; and the faults of texts, as commit and mend tell them. */
public final class TextTest {
    public static void main(String[] args) {
        types();
        faults();
        goodTexts();
        longTexts();
        textIsNoState();
        Check.end();
    }

    private static void types() {
        StepVersions x = new StepVersions();
        Check.due("empty", 0, x.clearText());
        for (int length = 1; length <= 60; length++) {
            Check.due("type", length, x.type((char) (length * 1000)));
        }
        Check.due("full", StepVersions.FULL, x.type('0'));
        Check.due("full", StepVersions.FULL, x.type((char) 0));
        Check.due("length", 60, x.count(13));
        Check.due("clear", 60, x.clearText());
        Check.due("length", 0, x.count(13));
        Check.due("again", 0, x.clearText());
        Check.due("any character", 1, x.type((char) 0));
        Check.due("any character", 2, x.type((char) 65535));
        Check.due("no act", 0, x.count(12));
    }

    private static void fault(String text, int index) {
        StepVersions x = new StepVersions();
        Check.due("fault of " + text, -100 - index, Check.commit(x, 0, text));
        Check.due("length of " + text, text.length(), x.count(13));
        Check.due("nothing is changed by " + text, 1, x.count(0));
        Check.due("no state by " + text, 0, x.count(12));
    }

    private static void faults() {
        fault("", 0);
        fault("=", 0);
        fault(",", 0);
        fault("a", 0);
        fault(" 1=1", 0);
        fault("-1=1", 0);
        fault("1", 1);
        fault("0", 1);
        fault("00=1", 1);
        fault("01=1", 1);
        fault("12=1", 1);
        fault("13=1", 1);
        fault("19", 1);
        fault("20=1", 1);
        fault("91=1", 1);
        fault("10", 2);
        fault("11", 2);
        fault("100=1", 2);
        fault("110=1", 2);
        fault("1,", 1);
        fault("1=", 2);
        fault("1=,", 2);
        fault("1==", 2);
        fault("11=", 3);
        fault("1=a", 2);
        fault("1=00", 3);
        fault("1=01", 3);
        fault("1=0=", 3);
        fault("1=100", 4);
        fault("1=999", 4);
        fault("1=1 ", 3);
        fault("1=1;2=2", 3);
        fault("1=1,", 4);
        fault("1=10,", 5);
        fault("1=1,,", 4);
        fault("1=1,2", 5);
        fault("1=1,2=", 6);
        fault("1=1,12=", 5);
        fault("1=1,2=2,3=3,4=x", 14);
        fault("1" + (char) 0x0661, 1);
        fault("" + (char) 0xFF11 + "=1", 0);
        fault("1=" + (char) (256 + '1'), 2);
        fault("" + (char) 0, 0);
    }

    private static void good(String text, int field, int value) {
        StepVersions x = new StepVersions();
        Check.due("commit of " + text, 1, Check.commit(x, 0, text));
        Check.due("value by " + text, value, x.read(1, field));
    }

    private static void goodTexts() {
        for (int field = 0; field < 12; field++) {
            good(field + "=1", field, 1);
            good(field + "=99", field, 99);
        }
        for (int value = 1; value < 100; value++) {
            good("4=" + value, 4, value);
        }
        good("4=0,5=1", 4, 0);
        good("4=5,4=0,5=1", 4, 0);
        good("10=10,11=11,1=1", 10, 10);
    }

    private static void longTexts() {
        String fifteen = "0=1,0=2,0=3,0=4,0=5,0=6,0=7,0=8,0=9,1=1,1=2,1=3,1=4,1=5,1=";
        fault(fifteen, 58);
        fault(fifteen + "x", 58);
        good(fifteen + "6", 1, 6);
        fault("0=1,0=2,0=3,0=4,0=5,0=6,0=7,0=8,0=9,1=1,1=2,1=3,1=4,1=10,11=", 60);
    }

    private static void textIsNoState() {
        StepVersions x = new StepVersions();
        Check.commit(x, 0, "1=1");
        x.keep();
        Check.text(x, "2=2,3=3");
        x.undo();
        Check.due("undo lets the text be", 7, x.count(13));
        x.restore();
        Check.due("restore lets the text be", 7, x.count(13));
        Check.due("and its edits", 2, x.commit(0));
        Check.due("value", 3, x.read(2, 3));
    }
}
