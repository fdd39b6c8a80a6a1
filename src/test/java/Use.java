/** A call, or some calls, of a pool. */
interface Use {
    Object on(LendingPool x);
}
