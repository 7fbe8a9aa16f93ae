/-! the given names (part 90) rest on rows of the library's Shelf42: one of its words is named here, so that a round on a new machine is read over the whole library from its first part on -/
theorem lw_lib : True := have _ := @Jvm.RowPassed; trivial
