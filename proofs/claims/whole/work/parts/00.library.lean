/-! part 9z9 rests on rows of the whole library: some of them are named here, so that a round is read over the whole of it from its first part on -/
theorem wl_0 : @Bundle.ownAtomsX = @Bundle.ownAtomsX := rfl
theorem wl_1 : @Bundle.chainSAtomsX = @Bundle.chainSAtomsX := rfl
theorem wl_2 : @Bundle.chainSX = @Bundle.chainSX := rfl
theorem wl_3 : @Bundle.ownAtomsX_six = @Bundle.ownAtomsX_six := rfl
theorem wl_4 : @Jvm.RowPassed = @Jvm.RowPassed := rfl
theorem wl_5 : @Jvm.RowPassed.of_words = @Jvm.RowPassed.of_words := rfl
theorem wl_6 : @Jvm.Stand.thenCaughtThrough = @Jvm.Stand.thenCaughtThrough := rfl
theorem wl_7 : @Jvm.Stand.caughtThrough = @Jvm.Stand.caughtThrough := rfl
theorem wl_8 : @Jvm.Stand.throwMadeVX = @Jvm.Stand.throwMadeVX := rfl
theorem wl_9 : @Jvm.Stand.ctorThrowOnSVX = @Jvm.Stand.ctorThrowOnSVX := rfl
theorem wl_10 : @Jvm.Stand.ctorMadeOnSVX = @Jvm.Stand.ctorMadeOnSVX := rfl
theorem wl_11 : @Jvm.Stand.vmThrowsNpeCaughtThrough = @Jvm.Stand.vmThrowsNpeCaughtThrough := rfl
