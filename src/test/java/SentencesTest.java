import java.io.IOException;
import java.nio.file.Files;
import java.nio.file.Path;
import java.util.ArrayList;
import java.util.List;

/**
 * The document from its first line to its last: each sentence stands here, with the test of it behind.
 * Its public face, the code there, is looked at by PromisesTest.
 */
public final class SentencesTest {
    static final Check CHECK = new Check("SentencesTest");
    static final Scene SCENE = new Scene(CHECK);
    private static final Path DOCUMENT = Path.of("../shared/DOC.md");
    private static final List<String> SAID = new ArrayList<>();

    public static void main(String[] args) throws IOException {
        whatItIs();
        terms();
        documents();
        client();
        toOffer();
        toSeek();
        promises1To8();
        promises9To12();
        promises13And14();
        promises15To18();
        notPromised();
        compareWithTheDocument();
        CHECK.end();
    }

    private static void says(String sentence, Runnable test) {
        SAID.add(sentence);
        int before = CHECK.wrong();
        test.run();
        if (CHECK.wrong() > before) {
            System.out.println("SentencesTest: does not hold: " + sentence);
        }
    }

    /** What no call can show. */
    private static void leavesFree(String sentence) {
        SAID.add(sentence);
    }

    private static void whatItIs() {
        says("A client that takes updates from whoever brings them: documents with versions, ends and signatures "
                + "vouch for one another, from a root that changes its own keys down to roles that others delegated "
                + "to; nothing older, nothing that is past its end, and nothing that is not vouched for is trusted, "
                + "and a target is taken only if it is just what the documents say.", TermSentences::whatItIs);
        says("An object is used for at most 512 calls after it has been made; what later calls answer is free.",
                TermSentences::fiveHundredAndTwelveCalls);
    }

    private static void terms() {
        says("KEYS are 0 .. 9.", TermSentences::keys);
        says("THE MIX of a row of bytes with a number s is an int: h is s * 0x9E3779B9 first; for each byte b "
                + "(0 .. 255) in order h becomes (h xor b) * 0x01000193, then h xor (h shifted right by 15 without "
                + "sign), all wrapping; that is it.", TermSentences::theMix);
        says("THE SIGNATURE of key k for a row of bytes is its mix with k + 1; THE DIGEST of a row its mix with 0.",
                TermSentences::signatureAndDigest);
        says("(They stand for true ones; whatever is compared is these numbers alone.)",
                TermSentences::numbersAlone);
        says("THE DRAFT is a row of at most 120 bytes, to which anything can be put.", TermSentences::theDraft);
        says("ROLES: 0 ROOT, 1 STAMP, 2 SNAPSHOT, 3 TARGETS, 4, 5, 6 DELEGATES.", TermSentences::roles);
        says("A NAME is one to four small letters.", TermSentences::names);
    }

    private static void documents() {
        says("A DOCUMENT is a row of bytes, of these parts, each number a byte where nothing else is said, numbers "
                + "of two or four bytes with the highest first:", TermSentences::numbersInADocument);
        says("the role; the VERSION, not 0; the END, two bytes; the BODY; the number of signatures, at most 6; of "
                + "each the key and the signature, four bytes.", TermSentences::partsOfADocument);
        says("What stands before the number of signatures is SIGNED.", TermSentences::whatIsSigned);
        says("A document is SIGNED BY so many of some keys, as there are different ones among these whose signature "
                + "for its signed part it has.", TermSentences::signedBy);
        says("Body of ROOT: for ROOT, STAMP, SNAPSHOT, TARGETS in this order a KEY SET: a THRESHOLD, not 0, the "
                + "number of keys, 1 .. 4, not less than the threshold, and the keys, each greater than the one "
                + "before.", TermSentences::bodyOfRoot);
        says("Of STAMP: the snapshot's version, not 0, and its digest, four bytes (the digest of the whole "
                + "document).", TermSentences::bodyOfStamp);
        says("Of SNAPSHOT: how many entries, 1 .. 4, of each a role 3 .. 6, each greater than the one before, and a "
                + "version, not 0; the first one is that for TARGETS.", TermSentences::bodyOfSnapshot);
        says("Of TARGETS and DELEGATES: how many TARGETS, at most 4, of each: how many letters its name has, 1 .. 4, "
                + "these, its LENGTH, and its digest, four bytes; no name twice;", TermSentences::targetsInABody);
        says("then how many DELEGATIONS, at most 3, of each: a role 4 .. 6, no role twice; 1 if it is FINAL, else 0; "
                + "a key set; how many letters a PREFIX has, at most 3, and these, small ones.",
                TermSentences::delegationsInABody);
        says("The draft is MALFORMED, if it is no document, or bytes stand behind it.", TermSentences::malformed);
    }

    private static void client() {
        says("THE CLIENT has a CLOCK, at first 0, and trusts at most one document for each role, at first none.",
                TrustSentences::clockAndTrust);
        says("A document has ENDED when its end is not after the clock.", TrustSentences::ended);
    }

    private static void toOffer() {
        says("TO OFFER the draft to it (which then trusts that document in place of the one that it trusted for the "
                + "role, or refuses it, as said with offer()):", TrustSentences::inPlaceOfTheOne);
        says("A ROOT: it must be signed by the threshold of the ROOT keys of the trusted root, and of its own; its "
                + "version must be one more than that of the trusted one.", TrustSentences::root);
        says("If the keys or the threshold for STAMP or SNAPSHOT are not the same any more, the documents for both "
                + "are not trusted any more.", TrustSentences::rootWithOtherKeys);
        says("(It may have ended.)", TrustSentences::rootThatHasEnded);
        says("All others: there must be a trusted root that has not ended, and: for a STAMP nothing more, for a "
                + "SNAPSHOT a trusted STAMP that has not ended, for TARGETS and DELEGATES a trusted SNAPSHOT that "
                + "has not ended.", TrustSentences::whatThereMustBe);
        says("A STAMP: signed by the threshold of the STAMP keys of the root.", TrustSentences::stampSigned);
        says("Its version must not be less than that of the trusted one, nor the snapshot's version in it than in "
                + "that one.", TrustSentences::stampVersions);
        says("It must not have ended.", TrustSentences::stampEnd);
        says("A SNAPSHOT: signed likewise by the SNAPSHOT keys.", TrustSentences::snapshotSigned);
        says("It must be what the stamp says: version and digest.", TrustSentences::snapshotAsStamped);
        says("For each role in the trusted snapshot it must have a version that is not less.",
                TrustSentences::snapshotVersions);
        says("It must not have ended.", TrustSentences::snapshotEnd);
        says("TARGETS: signed likewise by the TARGETS keys; DELEGATES need no signatures for this.",
                TrustSentences::targetsSigned);
        says("The version must be what the snapshot says for the role.", TrustSentences::targetsVersion);
        says("It must not have ended.", TrustSentences::targetsEnd);
        says("A NEW ROOT DOES NOT CHANGE what is trusted but as said.", TrustSentences::newRootChangesNoMore);
    }

    private static void toSeek() {
        says("A document for TARGETS or DELEGATES is FRESH, if it is trusted, has not ended, and its version is that "
                + "which the trusted snapshot says for the role.", TrustSentences::fresh);
        says("TO SEEK a name: the TARGETS are VISITED.", TrustSentences::targetsAreVisited);
        says("To visit a role is: if its document has a target of the name, that is found;",
                TrustSentences::ownTargetIsFound);
        says("else for each of its delegations in order whose prefix the name begins with, whose role was not "
                + "visited yet, and is fresh and signed by the threshold of the delegation's keys: that is visited; "
                + "if it is found there, it is found;", TrustSentences::delegationsAreFollowed);
        says("if not, and the delegation is final, all is over, and it is not found.",
                TrustSentences::finalDelegation);
        says("A call that throws changes nothing; where several exceptions that a call names fit, it is the one that "
                + "it names first.", TrustSentences::callsThatThrow);
    }

    private static void promises1To8() {
        says("No draft, nothing trusted, nothing installed.", PromiseSentences::newObject);
        says("n bytes come behind the draft, the lowest 8 bits of w first.", PromiseSentences::put);
        says("False, changing nothing, when n is not 1 .. 8, or it would have more than 120.",
                PromiseSentences::putThatIsRefused);
        says("The draft keeps its first n bytes.", PromiseSentences::cut);
        says("False, changing nothing, when n is negative or it has not so many.",
                PromiseSentences::cutThatIsRefused);
        says("Byte i of the draft becomes v (its lowest 8 bits).", PromiseSentences::alter);
        says("False when there is none.", PromiseSentences::alterThatIsRefused);
        says("How many bytes the draft has.", PromiseSentences::length);
        says("Byte i of the draft.", PromiseSentences::at);
        says("IndexOutOfBoundsException when there is none.", PromiseSentences::atThatThrows);
        says("The mix of the draft with s.", PromiseSentences::mix);
        says("Puts the four bytes of the digest of the content behind the draft.", PromiseSentences::digest);
        says("False, changing nothing, when it would have more than 120.", PromiseSentences::digestThatIsRefused);
    }

    private static void promises9To12() {
        says("Signs the draft anew: it must be a document's signed part from its first byte on, with what follows "
                + "being signatures or nothing; the number of them grows by 1 (or is 1), and the key's signature "
                + "comes behind them (whether it is there already or not).", PromiseSentences::sign);
        says("How many there are then.", PromiseSentences::signAnswers);
        says("IndexOutOfBoundsException when there is no such key; IllegalArgumentException when the draft is "
                + "neither a document nor one without the number of its signatures; UnsupportedOperationException "
                + "when it has six, or would have more than 120 bytes.", PromiseSentences::signThatThrows);
        says("The draft is kept as the content that install() is about.", PromiseSentences::content);
        says("How many bytes it has.", PromiseSentences::contentAnswers);
        says("The clock goes on by n: what it is then.", PromiseSentences::tick);
        says("IllegalArgumentException when n is not 0 .. 10000.", PromiseSentences::tickThatThrows);
        says("The draft is trusted as the root, whoever signed it, and nothing else is any more.",
                PromiseSentences::begin);
        says("IllegalArgumentException when it is MALFORMED, or no ROOT.", PromiseSentences::beginThatThrows);
    }

    private static void promises13And14() {
        says("OFFERS the draft: its role.", PromiseSentences::offer);
        says("IllegalArgumentException when it is malformed;", PromiseSentences::offerOfWhatIsMalformed);
        says("IndexOutOfBoundsException when what there must be is not there, or has ended (a root, a stamp, a "
                + "snapshot), or the snapshot has no version for the role;", PromiseSentences::offerWithoutWhatMustBe);
        says("IllegalStateException when it is not signed so;", PromiseSentences::offerOfWhatIsNotSigned);
        says("UnsupportedOperationException when its version, a version in it, or its digest is not as it must be;",
                PromiseSentences::offerOfAnotherVersion);
        says("NoSuchElementException when it has ended.", PromiseSentences::offerOfWhatHasEnded);
        says("The version of the trusted document of a role, or its end (ends); NONE when there is none.",
                PromiseSentences::trusted);
        says("IndexOutOfBoundsException when there is no such role.", PromiseSentences::trustedThatThrows);
    }

    private static void promises15To18() {
        says("SEEKS the name of n letters, the lowest byte of w first: the role whose document has the target; NONE "
                + "when it is not found.", PromiseSentences::seek);
        says("IllegalArgumentException when that is no name; IllegalStateException when root, stamp or snapshot is "
                + "not trusted or has ended, or the TARGETS are not fresh.", PromiseSentences::seekThatThrows);
        says("How many roles the latest seek() or install() that did not throw visited.", PromiseSentences::visits);
        says("Installs the content as the target with a name: the role that vouches for it.",
                PromiseSentences::install);
        says("IllegalArgumentException and IllegalStateException as for seek; NoSuchElementException when it is not "
                + "found; UnsupportedOperationException when length or digest of the content are other ones.",
                PromiseSentences::installThatThrows);
        says("How many targets were installed.", PromiseSentences::installed);
    }

    private static void notPromised() {
        leavesFree("How the state is held inside the object is free, as are the speed of each call, the text of "
                + "toString and the behaviour of equals and hashCode.");
        leavesFree("Use of one object from several threads at once is not promised to be safe.");
        leavesFree("Nothing is promised beyond the answers and state changes described above, and nothing about an "
                + "object after its 512th call.");
    }

    // That no sentence is left out

    private static void compareWithTheDocument() throws IOException {
        if (!Files.isReadable(DOCUMENT)) {
            System.out.println("SentencesTest: " + DOCUMENT + " is not there to compare with");
            return;
        }
        String here = String.join(" ", SAID);
        String there = sentencesOf(Files.readAllLines(DOCUMENT));
        int same = 0;
        while (same < here.length() && same < there.length() && here.charAt(same) == there.charAt(same)) {
            same++;
        }
        CHECK.due("the document goes on with", from(there, same), from(here, same));
    }

    private static String from(String text, int start) {
        return text.substring(start, Math.min(text.length(), start + 80));
    }

    /** The document's text without its headings and the code of its face. */
    private static String sentencesOf(List<String> lines) {
        StringBuilder text = new StringBuilder();
        boolean inCode = false;
        for (String line : lines) {
            if (line.startsWith("```")) {
                inCode = line.equals("```java");
            } else if (!inCode && !line.startsWith("#")) {
                text.append(line).append(' ');
            }
        }
        return text.toString().replaceAll("`[^`]*`: ", "").replaceAll("\\s+", " ").trim();
    }
}
