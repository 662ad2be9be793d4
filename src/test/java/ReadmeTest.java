/** What README.md shows answers what README.md says. */
public final class ReadmeTest {
    public static void main(String[] args) {
        LandingGears x = new LandingGears(15, 15, 15, 15);
        Due.is("ground(0)", x.ground(0), 7);
        Due.is("handle(0)", x.handle(0), 1);
        Due.is("run(1)", x.run(1), 1);
        Due.is("settle(1000)", x.settle(1000), 101);
        Due.is("plant(3)", x.plant(3), 0);
        Due.is("lights()", x.lights(), 0);
        Due.is("safe()", x.safe(), true);
        Due.is("plant(18)", x.plant(18), LandingGears.BAD);
        Due.is("log(1000, 0)", x.log(1000, 0), LandingGears.NONE);
        Due.end();
    }
}
