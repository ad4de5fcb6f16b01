theorem c_bits {n : Nat} {w : Wd} (hn : n < 1024) : CALL 203 [.int (nI n)] w = some ([.int (nI (pop n))], w) := by
  simp (disch := first | omega | decide | assumption | exact nI0_01 | exact nI1_01 | exact bz_01 _ | exact rf1 | exact rf11 | exact rf21) only [Option.bind_some, List.cons_append, List.nil_append, Nat.reduceAdd, Nat.reduceMul, Nat.reduceLeDiff, Nat.reduceEqDiff, ↓reduceIte, n203, u203_0, u203_1, u203_2, u203_3, u203_4, u203_7, u203_8, u203_9, u203_10, u203_11, u203_14, u203_15, u203_16, u203_17, u203_18, u203_21, u203_22, u203_23, u203_24, u203_25, u203_26, u203_27, u203_28, u203_29, u203_32, u203_33, u203_34, u203_35, u203_36, u203_38, u203_39, u203_40, u203_41, u203_42, u203_43, u203_45, u203_46, u203_47, u203_48, u203_49, u203_51, u203_52]
  trace_state
  sorry
