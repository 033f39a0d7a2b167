/** A way to bring a new object to a state: so a test can have as many objects in it as it needs. */
interface State {
    void build(Foundry x);
}
