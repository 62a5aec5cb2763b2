/** Promises 21 to 23: forecasts. */
public final class ForecastsTest {
    private static final Due due = new Due();

    public static void main(String[] args) {
        promise21Refusals();
        promise21TellsWhatMeetDoes();
        promise21AgreementOfThen();
        promise22Refusals();
        promise22TellsWhatChatDoes();
        promise23BestSayer();
        due.end();
    }

    private static void promise21Refusals() {
        GesturePidgin x = Due.village(3);
        x.go(1);
        due.is("ifMet(1, 0, 0, 0)", x.ifMet(1, 0, 0, 0), GesturePidgin.NO_SUCH);
        due.is("ifMet(0, 1, 0, 9)", x.ifMet(0, 1, 0, 9), GesturePidgin.NO_SUCH);
        due.is("ifMet(0, -1, 0, 0)", x.ifMet(0, -1, 0, 0), GesturePidgin.NO_SUCH);
        due.is("ifMet(8, 8, 0, 0)", x.ifMet(8, 8, 0, 0), GesturePidgin.NO_SUCH);
        due.is("ifMet(0, 2, 6, 9)", x.ifMet(0, 2, 6, 9), GesturePidgin.NO_SUCH);
        due.is("ifMet(0, 0, -1, 0)", x.ifMet(0, 0, -1, 0), GesturePidgin.NO_SUCH);
        due.is("ifMet(0, 2, 0, 4)", x.ifMet(0, 2, 0, 4), GesturePidgin.BAD_VALUE);
        due.is("ifMet(0, 0, 0, -1)", x.ifMet(0, 0, 0, -1), GesturePidgin.BAD_VALUE);
        due.is("ifMet(2, 2, 0, 3)", x.ifMet(2, 2, 0, 3), GesturePidgin.NOT_POSSIBLE);
    }

    private static void promise21TellsWhatMeetDoes() {
        GesturePidgin x = Due.village(3);
        x.setSeed(12345);
        int successes = 0;
        for (int round = 0; round < 60; round++) {
            int sayer = round % 3;
            int hearer = (sayer + 1 + round / 3 % 2) % 3;
            int meaning = round % 2;
            long before = x.digest();
            int word = x.ifMet(sayer, hearer, meaning, 0);
            int heard = x.ifMet(sayer, hearer, meaning, 1);
            int succeeds = x.ifMet(sayer, hearer, meaning, 2);
            int agreement = x.ifMet(sayer, hearer, meaning, 3);
            due.is("forecasts change nothing", x.digest(), before);
            int met = x.meet(sayer, hearer, meaning);
            due.is("the word", word, met / 10);
            due.is("the meaning", heard, met % 10);
            due.is("the success", succeeds, met % 10 == meaning ? 1 : 0);
            due.is("the agreement", agreement, x.agreement(sayer, hearer, 0));
            successes += succeeds;
        }
        due.is("some succeed, some do not", successes > 0 && successes < 60 ? 1 : 0, 1);
        due.is("only the meetings are saved", Due.undoAll(x), 6);
    }

    private static void promise21AgreementOfThen() {
        GesturePidgin x = Due.village(2);
        x.teach(0, 1, 4, 9);
        x.teach(1, 1, 4, 8);
        x.teach(1, 1, 5, 9);
        due.is("no agreement yet", x.agreement(0, 1, 0), 0);
        due.is("it would succeed", x.ifMet(0, 1, 1, 2), 1);
        due.is("agreement then", x.ifMet(0, 1, 1, 3), 1);
        due.is("still no agreement", x.agreement(0, 1, 0), 0);
    }

    private static void promise22Refusals() {
        GesturePidgin x = new GesturePidgin();
        for (int speakers = 0; speakers < 2; speakers++) {
            due.is("ifChat(0)", x.ifChat(0), GesturePidgin.BAD_VALUE);
            due.is("ifChat(201)", x.ifChat(201), GesturePidgin.BAD_VALUE);
            due.is("ifChat(1)", x.ifChat(1), GesturePidgin.NOT_POSSIBLE);
            due.is("ifChat(200)", x.ifChat(200), GesturePidgin.NOT_POSSIBLE);
            x.come();
        }
    }

    private static void promise22TellsWhatChatDoes() {
        GesturePidgin x = Due.village(4);
        int[] meetings = {1, 7, 100, 200};
        for (int number : meetings) {
            long before = x.digest();
            int forecast = x.ifChat(number);
            due.is("ifChat(" + number + ") again", x.ifChat(number), forecast);
            due.is("forecasts change nothing", x.digest(), before);
            due.is("chat(" + number + ")", x.chat(number), forecast);
        }
        due.is("no forecast counts", x.count(2), 308);
        due.is("only the chats are saved", Due.undoAll(x), 6);
        due.is("the oldest ones are discarded", x.count(0), 2);
    }

    private static void promise23BestSayer() {
        GesturePidgin x = Due.village(1);
        due.is("no other one", x.bestSayer(0), GesturePidgin.NONE);
        due.is("bestSayer(1)", x.bestSayer(1), GesturePidgin.NO_SUCH);
        due.is("bestSayer(-1)", x.bestSayer(-1), GesturePidgin.NO_SUCH);
        due.is("bestSayer(8)", x.bestSayer(8), GesturePidgin.NO_SUCH);
        x.come();
        x.come();
        x.come();
        due.is("of several the lowest, without understanding", x.bestSayer(0), 1);
        due.is("another one", x.bestSayer(3), 0);
        x.teach(0, 0, 0, 5);
        x.teach(0, 1, 1, 5);
        x.teach(2, 0, 0, 9);
        due.is("understood", x.bestSayer(0), 2);
        x.teach(3, 0, 0, 1);
        due.is("of several the lowest", x.bestSayer(0), 2);
        x.teach(3, 1, 1, 1);
        due.is("the greatest", x.bestSayer(0), 3);
        x.teach(1, 0, 2, 50);
        x.teach(1, 1, 3, 50);
        due.is("not the one who understands best", x.bestSayer(0), 3);
        x.go(3);
        due.is("not the leaver", x.bestSayer(0), 2);
    }
}
