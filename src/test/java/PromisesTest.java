/** One method a promise of the document: ordinary inputs, edges, wrong inputs. */
public final class PromisesTest {
    public static void main(String[] args) {
        GuiltySleep x = new GuiltySleep();
        Check.due("count(0)", x.count(0), 0);
        Check.end("PromisesTest");
    }
}
