/** The example of README.md: where its answers change, README.md changes with them. */
public final class ReadmeTest {
    public static void main(String[] args) {
        MinuteBank bank = new MinuteBank();
        int anna = bank.addPlayer(5000);
        int ben = bank.addPlayer(900);
        Check.same("the number of Anna", 0, anna);
        Check.same("the number of Ben", 1, ben);
        int game = bank.begin(anna, ben, 100, 5, 3, 200);
        Check.same("the number of the game", 0, game);
        Check.same("buy", 13, bank.buy(anna, 40));
        Check.same("put", 140, bank.put(game, 0, 40));
        Check.same("pass", 0, bank.pass(10));
        Check.same("the clock of side 0", 133, bank.game(game, 2));
        Check.same("foresee", 143, bank.foresee(600, 1));
        Check.same("press", 1, bank.press(game));
        int loan = bank.borrow(ben, 100, 20, 60);
        Check.same("the number of the loan", 0, loan);
        Check.loan("lent", bank, loan, ben, 100, 20, 70, 0);
        Check.same("pass until the loan is due", 0, bank.pass(60));
        Check.same("closed", 1, bank.loan(loan, 4));
        Check.game("3 of 103 came from the clock", bank, game, anna, ben, 138, 100 - 57 - 3);
        Check.same("end", 360, bank.end(game, 1));
        Check.same("leader", anna, bank.leader(0));
        Check.finish();
    }
}
