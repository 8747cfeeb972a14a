/-! ===== bitCount ===== -/
def q_us (a b : Int32) : Int32 := (a.toUInt32 >>> (b.toUInt32 &&& Int32.toUInt32 31)).toInt32
def q_b1 (i : Int32) : Int32 := i - (q_us i 1 &&& 1431655765)
def q_b2 (i : Int32) : Int32 := (i &&& 858993459) + (q_us i 2 &&& 858993459)
def q_b3 (i : Int32) : Int32 := i + q_us i 4 &&& 252645135
def q_b4 (i : Int32) : Int32 := i + q_us i 8
def q_b5 (i : Int32) : Int32 := i + q_us i 16
def q_bc (i : Int32) : Int32 := q_b5 (q_b4 (q_b3 (q_b2 (q_b1 i)))) &&& 63
theorem bc_ones : ∀ s, s < 64 → q_bc (nI s) = q_ones (nI s) := by decide +kernel
/-- fewer than n ones in what is not all n -/
theorem ones_lt : ∀ n, n < 7 → ∀ s, s < 2 ^ n - 1 → ∃ c, c < n ∧ q_ones (nI s) = nI c := by decide +kernel
set_option maxRecDepth 100000 in
set_option maxHeartbeats 4000000 in
theorem j_bc {l : Launch} {g : ab_G} {M : ab_M} {b : Int32} : AM l g Y_J6_bitCount_0f7a4 0 0 0 0 [.int b] M (ab_Qi (fun x M' => x = q_bc b ∧ M' = M)) := by
  refine AM.ofF [some (.int b)] (by decide +kernel) (Nat.le_of_ble_eq_true rfl) rfl ?_
  refine aw_iload_n dJ6_bitCount_0f7a4_0 rfl ?_
  refine aw_iload_n dJ6_bitCount_0f7a4_1 rfl ?_
  refine aw_iconst (v := 1) dJ6_bitCount_0f7a4_2 (by decide) ?_
  refine aw_iushr dJ6_bitCount_0f7a4_3 ?_
  refine aw_ldcw dJ6_bitCount_0f7a4_4 tw_762 ?_
  refine aw_iand dJ6_bitCount_0f7a4_7 ?_
  refine aw_isub dJ6_bitCount_0f7a4_8 ?_
  refine aw_istore_n dJ6_bitCount_0f7a4_9 rfl (by decide) ?_
  refine aw_iload_n dJ6_bitCount_0f7a4_10 rfl ?_
  refine aw_ldcw dJ6_bitCount_0f7a4_11 tw_763 ?_
  refine aw_iand dJ6_bitCount_0f7a4_14 ?_
  refine aw_iload_n dJ6_bitCount_0f7a4_15 rfl ?_
  refine aw_iconst (v := 2) dJ6_bitCount_0f7a4_16 (by decide) ?_
  refine aw_iushr dJ6_bitCount_0f7a4_17 ?_
  refine aw_ldcw dJ6_bitCount_0f7a4_18 tw_763 ?_
  refine aw_iand dJ6_bitCount_0f7a4_21 ?_
  refine aw_iadd dJ6_bitCount_0f7a4_22 ?_
  refine aw_istore_n dJ6_bitCount_0f7a4_23 rfl (by decide) ?_
  refine aw_iload_n dJ6_bitCount_0f7a4_24 rfl ?_
  refine aw_iload_n dJ6_bitCount_0f7a4_25 rfl ?_
  refine aw_iconst (v := 4) dJ6_bitCount_0f7a4_26 (by decide) ?_
  refine aw_iushr dJ6_bitCount_0f7a4_27 ?_
  refine aw_iadd dJ6_bitCount_0f7a4_28 ?_
  refine aw_ldcw dJ6_bitCount_0f7a4_29 tw_764 ?_
  refine aw_iand dJ6_bitCount_0f7a4_32 ?_
  refine aw_istore_n dJ6_bitCount_0f7a4_33 rfl (by decide) ?_
  refine aw_iload_n dJ6_bitCount_0f7a4_34 rfl ?_
  refine aw_iload_n dJ6_bitCount_0f7a4_35 rfl ?_
  refine aw_bipush (v := 8) dJ6_bitCount_0f7a4_36 (by decide) ?_
  refine aw_iushr dJ6_bitCount_0f7a4_38 ?_
  refine aw_iadd dJ6_bitCount_0f7a4_39 ?_
  refine aw_istore_n dJ6_bitCount_0f7a4_40 rfl (by decide) ?_
  refine aw_iload_n dJ6_bitCount_0f7a4_41 rfl ?_
  refine aw_iload_n dJ6_bitCount_0f7a4_42 rfl ?_
  refine aw_bipush (v := 16) dJ6_bitCount_0f7a4_43 (by decide) ?_
  refine aw_iushr dJ6_bitCount_0f7a4_45 ?_
  refine aw_iadd dJ6_bitCount_0f7a4_46 ?_
  refine aw_istore_n dJ6_bitCount_0f7a4_47 rfl (by decide) ?_
  refine aw_iload_n dJ6_bitCount_0f7a4_48 rfl ?_
  refine aw_bipush (v := 63) dJ6_bitCount_0f7a4_49 (by decide) ?_
  refine aw_iand dJ6_bitCount_0f7a4_51 ?_
  exact aw_iret dJ6_bitCount_0f7a4_52 rfl ⟨rfl, rfl⟩
