import java.io.IOException;

/** The document from its first word to its last, and beside each of its words the test that fails where they fail. */
public final class DocumentTest {
    private static final Checks CHECKS = new Checks();
    private static final Document DOC = new Document(CHECKS);

    public static void main(String[] args) throws IOException {
        OnTerms terms = new OnTerms(CHECKS);
        whatItIs(terms);
        texts(terms);
        longest(terms);
        delta(terms);
        OnReading reading = new OnReading(CHECKS);
        reading(reading);
        refused(reading);
        OnCalls calls = new OnCalls(CHECKS);
        callsOfInput(calls);
        callsOfDelta(calls);
        callsThatAsk(calls);
        notPromised(calls);
        DOC.finish();
        CHECKS.finish();
    }

    private static void whatItIs(OnTerms on) {
        DOC.says("Deltas of texts: a text as copies from another one and what is new;", on::copiesAndWhatIsNew);
        DOC.says("made in one way,", on::madeInOneWay);
        DOC.says("read in every way.", on::readInEveryWay);
        DOC.says("An object is used for at most 512 calls after it has been made;", on::atMost512Calls);
        DOC.promisesNothing("what later calls answer is free.");
    }

    private static void texts(OnTerms on) {
        DOC.says("BYTES are 0 .. 255,", on::bytes);
        DOC.says("a TEXT is a row of BYTES.", on::rows);
        DOC.says("INPUT and BASE are TEXTS of at most 65536 BYTES,", on::inputAndBase);
        DOC.says("OUTPUT any TEXT;", on::anyOutput);
        DOC.says("all are empty at first.", on::emptyAtFirst);
    }

    private static void longest(OnTerms on) {
        DOC.says("LONGEST at place i of INPUT: the greatest length,", on::greatestLength);
        DOC.says("at most 65535,", on::atMost65535);
        DOC.says("such that as many BYTES of INPUT from i on stand in BASE,", on::standInBase);
        DOC.says("and the least place there for it.", on::leastPlace);
    }

    private static void delta(OnTerms on) {
        DOC.says("DELTA of INPUT on BASE: the length of BASE, that of INPUT,", on::lengthOfBaseAndThatOfInput);
        DOC.says("as numbers of 7 bits a BYTE, lowest first, 128 added to all but the last;", on::numbers);
        DOC.says("then from place 0 on: if the LONGEST is of 8 or more, a COPY of it", on::copyOf8OrMore);
        DOC.says("(the next place is behind it),", on::nextPlaceIsBehindCopy);
        DOC.says("else the BYTE is NEW.", on::elseNew);
        DOC.says("COPY: a BYTE of 128, with bits 0 .. 3 for those of the four BYTES of the place in BASE, lowest first,"
                + " that aren't 0,", on::bytesOfPlace);
        DOC.says("bits 4 and 5 for those of the two of the length;", on::bytesOfLength);
        DOC.says("then those that aren't 0, in this order.", on::inThisOrder);
        DOC.says("NEW ones in a row: 127 each, the last ones fewer:", on::rowsOf127);
        DOC.says("a BYTE with how many, then they.", on::howManyThenThey);
    }

    private static void reading(OnReading on) {
        DOC.says("READING a DELTA on BASE: it's DAMAGED unless it is: two numbers of that form,", on::twoNumbers);
        DOC.says("of at most 4 BYTES each (BYTES of 128 that add nothing are fine),", on::atMost4Bytes);
        DOC.says("the first one the length of BASE,", on::firstIsLengthOfBase);
        DOC.says("the second at most 65536;", on::secondIsAtMost65536);
        DOC.says("then any COPIES,", on::anyCopies);
        DOC.says("with bits 0 .. 6 (three BYTES of length;", on::bits0To6);
        DOC.says("a length of 0 is 65536),", on::lengthOf0);
        DOC.says("wholly within BASE,", on::whollyWithinBase);
        DOC.says("and rows of 1 to 127 NEW BYTES;", on::rowsOf1To127);
        DOC.says("no BYTE 0 instead;", on::noByte0);
        DOC.says("that make exactly as many BYTES as the second number says.", on::exactlyAsMany);
    }

    private static void refused(OnReading on) {
        DOC.says("\"Bad\" is IllegalArgumentException,", on::bad);
        DOC.says("a number out of range,", on::outOfRange);
        DOC.says("DAMAGED ArithmeticException.", on::damagedIsArithmetic);
        DOC.says("What is refused changes nothing.", on::changesNothing);
    }

    private static void callsOfInput(OnCalls on) {
        DOC.says("Empty.", on::newObject);
        DOC.says("Adds the twenty BYTES of the numbers,", on::feedAddsTwenty);
        DOC.says("of each the highest first,", on::feedHighestFirst);
        DOC.says("to INPUT.", on::feedToInput);
        DOC.says("It would be too long: IllegalStateException.", on::feedTooLong);
        DOC.says("Answers its length.", on::feedAnswers);
        DOC.says("The last n BYTES of INPUT go", on::endTakesLast);
        DOC.says("(0 or more, as many must be there; else bad).", on::endOfAsManyAsThere);
        DOC.says("Answers its length.", on::endAnswers);
        DOC.says("BYTE i of INPUT", on::changeOfByteI);
        DOC.says("(it must be there, else bad)", on::changeOfWhatIsThere);
        DOC.says("is xored with x (0 .. 255).", on::changeXors);
        DOC.says("BASE is INPUT,", on::baseIsInput);
        DOC.says("which is empty then.", on::inputIsEmptyThen);
        DOC.says("Answers its length.", on::baseAnswers);
    }

    private static void callsOfDelta(OnCalls on) {
        DOC.says("OUTPUT is the DELTA of INPUT on BASE;", on::makeDelta);
        DOC.says("both stay.", on::makeLeavesBoth);
        DOC.says("Answers its length.", on::makeAnswers);
        DOC.says("READING: OUTPUT is what INPUT, a DELTA, makes of BASE;", on::useReads);
        DOC.says("both stay.", on::useLeavesBoth);
        DOC.says("Answers its length.", on::useAnswers);
        DOC.says("INPUT is OUTPUT", on::turnIsOutput);
        DOC.says("(which stays).", on::outputStays);
        DOC.says("It would be too long: IllegalStateException.", on::turnTooLong);
        DOC.says("Answers its length.", on::turnAnswers);
    }

    private static void callsThatAsk(OnCalls on) {
        DOC.says("Of the LONGEST at place i of INPUT", on::longestAtPlaceI);
        DOC.says("(it must be there, else bad):", on::longestOfWhatIsThere);
        DOC.says("the length, 0 if it's below 8 (what 0);", on::length0Below8);
        DOC.says("the place in BASE, -1 if it's below 8 (1).", on::placeMinus1Below8);
        DOC.says("BYTE i of OUTPUT.", on::letterOfOutput);
        DOC.says("It isn't there: IndexOutOfBoundsException.", on::letterIsNotThere);
        DOC.says("The length of INPUT (0),", on::countOfInput);
        DOC.says("of BASE (1),", on::countOfBase);
        DOC.says("of OUTPUT (2);", on::countOfOutput);
        DOC.says("of the latest make COPIES (3)", on::countOfCopies);
        DOC.says("and NEW BYTES (4),", on::countOfNew);
        DOC.says("0 before;", on::count0BeforeMake);
        DOC.says("how often READING was DAMAGED (5);", on::countOfDamaged);
        DOC.says("else -1.", on::countOfOthers);
    }

    private static void notPromised(OnCalls on) {
        DOC.promisesNothing("How the state is held inside the object is free, as are the speed of each call,"
                + " the text of toString and the behaviour of equals and hashCode.");
        DOC.promisesNothing("Use of one object from several threads at once is not promised to be safe.");
        DOC.says("Nothing is promised beyond the answers and state changes described above,", on::onlyChangesDescribed);
        DOC.promisesNothing("and nothing about an object after its 512th call.");
    }
}
