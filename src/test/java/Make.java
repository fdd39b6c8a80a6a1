/** Makes a pool, always the same one. */
interface Make {
    LendingPool pool();
}
