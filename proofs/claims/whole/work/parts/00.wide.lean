/-! a name of the wider library, so that a round takes it from the first part on -/
def wide_0 := @FP.Core.fin_bits
