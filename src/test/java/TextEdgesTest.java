/** The boundary cases of promises 13 and 14, and of "Texts": each character at each place. */
public final class TextEdgesTest {
    /** What the grammar of the document allows next. */
    private enum Place {
        FIELD, AFTER_ONE, BEFORE_EQUALS, VALUE, AFTER_DIGIT, BEFORE_COMMA, FAULT;

        Place next(char sign) {
            boolean digit = sign >= '0' && sign <= '9';
            switch (this) {
                case FIELD:
                    return !digit ? FAULT : sign == '1' ? AFTER_ONE : BEFORE_EQUALS;
                case AFTER_ONE:
                    return sign == '0' || sign == '1' ? BEFORE_EQUALS : BEFORE_EQUALS.next(sign);
                case BEFORE_EQUALS:
                    return sign == '=' ? VALUE : FAULT;
                case VALUE:
                    return !digit ? FAULT : sign == '0' ? BEFORE_COMMA : AFTER_DIGIT;
                case AFTER_DIGIT:
                    return digit ? BEFORE_COMMA : BEFORE_COMMA.next(sign);
                case BEFORE_COMMA:
                    return sign == ',' ? FIELD : FAULT;
                default:
                    return FAULT;
            }
        }

        boolean mayEnd() {
            return this == AFTER_DIGIT || this == BEFORE_COMMA;
        }
    }

    public static void main(String[] args) {
        typeReturns();
        typeFull();
        typeAnyCharacter();
        clearTextReturns();
        numbersOfFields();
        numbersOfValues();
        tooEarly();
        eachCharacterAtEachPlace();
        allShortTexts();
        theLaterEditCounts();
        sixtyCharacters();
        textIsNoState();
        faultsOfMend();
        Check.end();
    }

    // ---- promises 13 and 14

    private static void typeReturns() {
        Check.about("13: returns the length of the text then");
        StepVersions x = new StepVersions();
        Check.due("first", 1, x.type('1'));
        Check.due("second", 2, x.type('='));
        Check.about("13: types a character behind the text");
        Check.due("third", 3, x.type('5'));
        Check.due("commit", 1, x.commit(0));
        Check.due("one more behind a commit", 4, x.type('7'));
        x.commit(0);
        Check.due("edited", 57, x.read(2, 1));
        Check.about("13: no act");
        Check.due("states", 2, x.count(12));
    }

    private static void typeFull() {
        Check.about("13: FULL if it has 60 characters");
        StepVersions x = new StepVersions();
        for (int length = 1; length <= 60; length++) {
            Check.due("type", length, x.type('0'));
        }
        Check.due("one more", StepVersions.FULL, x.type('0'));
        Check.due("another one", StepVersions.FULL, x.type('='));
        Check.due("length", 60, x.count(13));
        Check.due("cleared", 60, x.clearText());
        Check.due("room again", 1, x.type('0'));
        Check.about("Errors: a call that returns an error changes nothing");
        x = new StepVersions();
        Check.text(x, "0=1,1=1,2=1,3=1,4=1,5=1,6=1,7=1,8=1,9=1,10=1,0=2,1=2,2=2,3=");
        Check.due("the 60th", 60, x.type('3'));
        Check.due("the 61st", StepVersions.FULL, x.type('4'));
        Check.due("commit", 1, x.commit(0));
        Check.due("the 60th counts", 3, x.read(1, 3));
    }

    private static void typeAnyCharacter() {
        Check.about("13: any character");
        for (int from = 0; from < 65536; from += 60) {
            StepVersions x = new StepVersions();
            for (int sign = from; sign < from + 60 && sign < 65536; sign++) {
                Check.due("character " + sign, sign - from + 1, x.type((char) sign));
            }
        }
    }

    private static void clearTextReturns() {
        Check.about("14: returns the length that it had");
        StepVersions x = new StepVersions();
        Check.due("empty", 0, x.clearText());
        x.type('1');
        x.type('=');
        Check.due("two", 2, x.clearText());
        Check.about("14: empties the text");
        Check.due("length", 0, x.count(13));
        Check.due("again", 0, x.clearText());
        Check.due("commit", -100, x.commit(0));
        Check.text(x, "2=3");
        x.clearText();
        x.type('1');
        Check.due("nothing is left of it", -101, x.commit(0));
        Check.about("14: no act");
        Check.due("states", 0, x.count(12));
    }

    // ---- texts

    private static StepVersions withText(String text) {
        StepVersions x = new StepVersions();
        Check.text(x, text);
        return x;
    }

    private static void fault(String text, int index) {
        Check.due("commit of \"" + text + "\"", -100 - index, withText(text).commit(0));
    }

    private static void numbersOfFields() {
        Check.about("Texts: a field (0 to 11)");
        for (int field = 0; field < 12; field++) {
            StepVersions x = withText(field + "=5");
            Check.due("commit of " + field, 1, x.commit(0));
            Check.due("read " + field, 5, x.read(1, field));
        }
        for (int field = 12; field < 200; field++) {
            fault(field + "=5", field >= 100 && field < 120 ? 2 : 1);
        }
        Check.about("Texts: without a zero in front unless it is the single digit 0");
        for (int field = 0; field < 12; field++) {
            fault("0" + field + "=5", 1);
        }
    }

    private static void numbersOfValues() {
        Check.about("Texts: a value (one or two digits, likewise)");
        for (int value = 0; value < 100; value++) {
            StepVersions x = withText("4=" + value + ",5=1");
            Check.due("commit of " + value, 1, x.commit(0));
            Check.due("read of " + value, value, x.read(1, 4));
        }
        fault("4=100", 4);
        fault("4=999", 4);
        fault("4=00", 3);
        fault("4=01", 3);
        fault("4=09,5=1", 3);
        fault("4=-1", 2);
        fault("4=+1", 2);
    }

    private static void tooEarly() {
        Check.about("Texts: the length of the text if it ends too early (the empty text does)");
        for (String text : new String[] {"", "0", "0=", "0=5,", "0=5,1", "0=5,11", "0=5,11=",
            "0=5,11=99,", "0=5,11=99,1", "0=5,11=99,1="}) {
            fault(text, text.length());
        }
        for (String text : new String[] {"0=5", "0=5,11=9", "0=5,11=99", "0=5,11=99,1=0"}) {
            Check.due("commit of \"" + text + "\"", 1, withText(text).commit(0));
        }
    }

    private static int faultOf(String text) {
        Place place = Place.FIELD;
        for (int i = 0; i < text.length(); i++) {
            place = place.next(text.charAt(i));
            if (place == Place.FAULT) {
                return i;
            }
        }
        return place.mayEnd() ? -1 : text.length();
    }

    /** Compares the answer of commit() with the grammar; NONE is fine where all edits are to 0. */
    private static void compare(String text) {
        int fault = faultOf(text);
        int got = withText(text).commit(0);
        if (fault >= 0 || got != StepVersions.NONE) {
            Check.due("commit of \"" + text + "\"", fault < 0 ? 1 : -100 - fault, got);
        }
    }

    private static void eachCharacterAtEachPlace() {
        Check.about("Texts: the index of the first character that is not allowed at its place");
        String[] starts = {"", "0", "1", "7", "9", "10", "11", "6=", "10=", "6=0", "6=1", "6=9",
            "6=10", "6=99", "6=5,", "6=5,1", "6=5,0", "6=5,11", "6=5,2=", "6=5,2=0", "6=5,2=3",
            "6=5,2=34"};
        for (String start : starts) {
            for (int sign = 0; sign < 256; sign++) {
                compare(start + (char) sign);
            }
            for (char sign : new char[] {'=', ',', '0', '1', '9'}) {
                fault(start + (char) (sign + 256), start.length());
                fault(start + (char) (sign + 65248), start.length());
                fault(start + (char) (sign + 65280), start.length());
            }
            fault(start + (char) 65535, start.length());
        }
    }

    /** All texts of up to six characters that matter. */
    private static void allShortTexts() {
        Check.about("Texts: a row of edits is one or more edits with \",\" between two");
        String signs = "0129=,x";
        for (int length = 0; length <= 6; length++) {
            int texts = 1;
            for (int i = 0; i < length; i++) {
                texts *= signs.length();
            }
            for (int number = 0; number < texts; number++) {
                StringBuilder text = new StringBuilder();
                for (int rest = number, i = 0; i < length; i++, rest /= signs.length()) {
                    text.append(signs.charAt(rest % signs.length()));
                }
                compare(text.toString());
            }
        }
    }

    private static void theLaterEditCounts() {
        Check.about("Texts: if a field is edited twice, the later edit counts");
        StepVersions x = withText("5=1,5=2,0=1,5=3");
        x.commit(0);
        Check.due("three times", 3, x.read(1, 5));
        x = withText("5=3,0=1,5=0");
        x.commit(0);
        Check.due("back to 0", 0, x.read(1, 5));
        Check.about("Texts: only the edits of the text that is there");
        Check.commit(x, 0, "0=2");
        Check.commit(x, 0, "5=9,x");
        Check.commit(x, 0, "1=1");
        Check.due("of a text with a fault", 0, x.read(3, 5));
        Check.due("of this text", 1, x.read(3, 1));
        Check.due("of an earlier text", 2, x.read(3, 0));
    }

    private static void sixtyCharacters() {
        Check.about("Texts: at most 60 characters");
        String start = "0=1,0=2,0=3,0=4,0=5,0=6,0=7,0=8,0=9,1=1,1=2,1=3,1=4,1=5,";
        StepVersions x = withText(start + "11=7");
        Check.due("60 characters", 1, x.commit(0));
        Check.due("the last edit", 7, x.read(1, 11));
        x = withText(start + "1=70");
        x.commit(0);
        Check.due("a value up to the 60th", 70, x.read(1, 1));
        fault(start + "1=7,", 60);
        fault(start + "11=", 59);
        fault(start + "1=7x", 59);
        fault(start + "1111", 58);
        fault("0=1,0=2,0=3,0=4,0=5,0=6,0=7,0=8,0=9,1=1,1=2,1=3,1=4,1=10,11=", 60);
        fault("0=1,0=2,0=3,0=4,0=5,0=6,0=7,0=8,0=9,1=1,1=2,1=3,1=4,10=10,11", 60);
        Check.due("the 61st is not there", 1,
                withText("0=1,0=2,0=3,0=4,0=5,0=6,0=7,0=8,0=9,1=1,1=2,1=3,1=4,1=5,11=1,").commit(0));
    }

    private static void textIsNoState() {
        Check.about("History: a state is everything but the text");
        StepVersions x = Check.chain("1=1");
        x.keep();
        Check.text(x, "2=2,3=3");
        x.undo();
        Check.due("undo lets it be", 7, x.count(13));
        x.clearText();
        x.restore();
        Check.due("restore brings none back", 0, x.count(13));
    }

    private static void faultsOfMend() {
        Check.about("12: -100 minus the fault of the text, as for commit()");
        String[] texts = {"", "1", "12=1", "1=", "1=00", "1=100", "1=1,", "1=1,,", "x", "01=1"};
        for (String text : texts) {
            StepVersions x = Check.chain("0=1");
            x.spoil(1);
            Check.text(x, text);
            Check.due("mend by \"" + text + "\"", -100 - faultOf(text), x.mend(1, 0));
        }
    }
}
