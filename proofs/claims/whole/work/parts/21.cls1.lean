/-! ===== the class's leaves ===== -/
def q_out (v lo hi : Int32) : Bool := decide (v < lo) || decide (hi < v)
theorem q_out_in {v lo hi : Int32} : q_out v lo hi = !q_in v lo hi := by
  have e : (q_out v lo hi = true) ↔ ¬ (q_in v lo hi = true) := by
    rw [q_in_iff]
    simp only [q_out, Bool.or_eq_true, decide_eq_true_eq, Int32.lt_iff_toInt_lt]
    omega
  cases h : q_in v lo hi with
  | true =>
    cases h2 : q_out v lo hi with
    | true => exact absurd h (e.mp h2)
    | false => rfl
  | false => exact e.mpr (by rw [h]; decide)
def q_cut (n d : Int32) : Int32 := if 1 ≤ d then (n + d - 1) / d else n
def q_byte2 (w : Int64) (i : Int32) : Int32 := (w.toUInt64 >>> ((8 * i).toInt64.toUInt64 &&& Int64.toUInt64 63)).toInt64.toInt32 &&& 255
/-- a row's place, or a word where it has none -/
def q_or (f : Nat → Int32) (n : Nat) (i z : Int32) : Int32 := if ¬ i < 0 ∧ i < nI n then f i.toNatClampNeg else z
theorem or_in {i : Int32} {n : Nat} (hn : n < 1000) (h0 : ¬ i < 0) (h1 : i < nI n) : vp_in i n := by
  rw [vp_in_iff]
  rw [Int32.lt_iff_toInt_lt, t_0] at h0
  rw [Int32.lt_iff_toInt_lt, nI_toInt (by omega)] at h1
  omega
set_option maxRecDepth 100000 in
set_option maxHeartbeats 4000000 in
theorem c_outside {l : Launch} {g : ab_G} {M : ab_M} {v lo hi : Int32} : AM l g Y_X8_outside 0 0 0 0 [.int v, .int lo, .int hi] M (ab_Qi (fun x M' => x = b2i (q_out v lo hi) ∧ M' = M)) := by
  refine AM.of [some (.int v), some (.int lo), some (.int hi)] (by decide +kernel) (Nat.le_of_ble_eq_true rfl) rfl ?_
  refine aw_iload_n dX8_outside_0 rfl ?_
  refine aw_iload_n dX8_outside_1 rfl ?_
  refine aw_icmp_lt (tgt := 10) dX8_outside_2 (by decide) (fun h2 => ?_) (fun h2 => ?_)
  · refine aw_iconst (v := 1) dX8_outside_10 (by decide) ?_
    refine aw_goto (tgt := 15) dX8_outside_11 (by decide) ?_
    exact aw_zret dX8_outside_15 rfl rfl ⟨by rw [b2i]; split <;> simp_all [q_out, Int32.le_iff_toInt_le, Int32.lt_iff_toInt_lt] <;> omega, rfl⟩
  · refine aw_iload_n dX8_outside_5 rfl ?_
    refine aw_iload_n dX8_outside_6 rfl ?_
    refine aw_icmp_le (tgt := 14) dX8_outside_7 (by decide) (fun h7 => ?_) (fun h7 => ?_)
    · refine aw_iconst (v := 0) dX8_outside_14 (by decide) ?_
      exact aw_zret dX8_outside_15 rfl rfl ⟨by rw [b2i]; split <;> simp_all [q_out, Int32.le_iff_toInt_le, Int32.lt_iff_toInt_lt] <;> omega, rfl⟩
    · refine aw_iconst (v := 1) dX8_outside_10 (by decide) ?_
      refine aw_goto (tgt := 15) dX8_outside_11 (by decide) ?_
      exact aw_zret dX8_outside_15 rfl rfl ⟨by rw [b2i]; split <;> simp_all [q_out, Int32.le_iff_toInt_le, Int32.lt_iff_toInt_lt] <;> omega, rfl⟩
set_option maxRecDepth 100000 in
set_option maxHeartbeats 4000000 in
theorem c_cutUp {l : Launch} {g : ab_G} {M : ab_M} {n d : Int32} : AM l g Y_X8_cutUp 0 0 0 0 [.int n, .int d] M (ab_Qi (fun x M' => x = q_cut n d ∧ M' = M)) := by
  refine AM.of [some (.int n), some (.int d)] (by decide +kernel) (Nat.le_of_ble_eq_true rfl) rfl ?_
  refine aw_iload_n dX8_cutUp_0 rfl ?_
  refine aw_iconst (v := 1) dX8_cutUp_1 (by decide) ?_
  refine aw_icmp_ge (tgt := 9) dX8_cutUp_2 (by decide) (fun h2 => ?_) (fun h2 => ?_)
  · refine aw_iload_n dX8_cutUp_9 rfl ?_
    refine aw_iload_n dX8_cutUp_10 rfl ?_
    refine aw_iadd dX8_cutUp_11 ?_
    refine aw_iconst (v := 1) dX8_cutUp_12 (by decide) ?_
    refine aw_isub dX8_cutUp_13 ?_
    refine aw_iload_n dX8_cutUp_14 rfl ?_
    refine aw_idiv dX8_cutUp_15 (fun e => by subst e; exact absurd h2 (by decide)) ?_
    exact aw_iret dX8_cutUp_16 rfl ⟨by first | (rw [q_cut, if_pos h2]; done) | (rw [q_cut, if_neg h2]; done), rfl⟩
  · refine aw_iload_n dX8_cutUp_5 rfl ?_
    refine aw_goto (tgt := 16) dX8_cutUp_6 (by decide) ?_
    exact aw_iret dX8_cutUp_16 rfl ⟨by first | (rw [q_cut, if_pos h2]; done) | (rw [q_cut, if_neg h2]; done), rfl⟩
set_option maxRecDepth 100000 in
set_option maxHeartbeats 4000000 in
theorem c_byteOf {l : Launch} {g : ab_G} {M : ab_M} {w : Int64} {i : Int32} : AM l g Y_X1_byteOf 0 0 0 0 [.long w, .int i] M (ab_Qi (fun x M' => x = q_byte2 w i ∧ M' = M)) := by
  refine AM.of [some (.long w), none, some (.int i)] (by decide +kernel) (Nat.le_of_ble_eq_true rfl) rfl ?_
  refine aw_lload_n dX1_byteOf_0 rfl ?_
  refine aw_bipush (v := 8) dX1_byteOf_1 (by decide) ?_
  refine aw_iload_n dX1_byteOf_3 rfl ?_
  refine aw_imul dX1_byteOf_4 ?_
  refine aw_lushr dX1_byteOf_5 ?_
  refine aw_l2i dX1_byteOf_6 ?_
  refine aw_sipush (v := 255) dX1_byteOf_7 (by decide) ?_
  refine aw_iand dX1_byteOf_10 ?_
  exact aw_iret dX1_byteOf_11 rfl ⟨rfl, rfl⟩
set_option maxRecDepth 100000 in
set_option maxHeartbeats 4000000 in
theorem c_priceOf {l : Launch} {g : ab_G} {M : ab_M} {a p : Nat} {t tp : Nat × Nat} {v0 v2 v3 v4 : Value} {f : Nat → Int32} {i : Int32} (ha : M a = some (t, .inr (2, [v0, .ref p, v2, v3, v4]))) (hp : M p = some (tp, ab_ai g 10 f)) : AM l g Y_X1_priceOf 0 0 0 0 [.ref a, .int i] M (ab_Qi (fun x M' => x = q_or f 10 i (-1) ∧ M' = M)) := by
  refine AM.of [some (.ref a), some (.int i)] (by decide +kernel) (Nat.le_of_ble_eq_true rfl) rfl ?_
  refine aw_iload_n dX1_priceOf_0 rfl ?_
  refine aw_if_lt (tgt := 13) dX1_priceOf_1 (by decide) (fun h1 => ?_) (fun h1 => ?_)
  · refine aw_iconst (v := -1) dX1_priceOf_13 (by decide) ?_
    refine aw_goto (tgt := 23) dX1_priceOf_14 (by decide) ?_
    exact aw_iret dX1_priceOf_23 rfl ⟨by first | (rw [q_or, if_neg (fun h => h.1 h1)]; done) | (rw [q_or, if_neg (fun h => h10 h.2)]; done) | (rw [q_or, if_pos ⟨h1, h10⟩]; done), rfl⟩
  · refine aw_iload_n dX1_priceOf_4 rfl ?_
    refine aw_aload_n dX1_priceOf_5 rfl ?_
    refine aw_get dX1_priceOf_6 fg_X1_15_2 ha rfl ?_
    refine aw_alen dX1_priceOf_9 hp 0 rfl rfl ?_
    refine aw_icmp_lt (tgt := 17) dX1_priceOf_10 (by decide) (fun h10 => ?_) (fun h10 => ?_)
    · refine aw_aload_n dX1_priceOf_17 rfl ?_
      refine aw_get dX1_priceOf_18 fg_X1_15_2 ha rfl ?_
      refine aw_iload_n dX1_priceOf_21 rfl ?_
      refine aw_iald dX1_priceOf_22 hp (or_in (by decide) h1 h10) ?_
      exact aw_iret dX1_priceOf_23 rfl ⟨by first | (rw [q_or, if_neg (fun h => h.1 h1)]; done) | (rw [q_or, if_neg (fun h => h10 h.2)]; done) | (rw [q_or, if_pos ⟨h1, h10⟩]; done), rfl⟩
    · refine aw_iconst (v := -1) dX1_priceOf_13 (by decide) ?_
      refine aw_goto (tgt := 23) dX1_priceOf_14 (by decide) ?_
      exact aw_iret dX1_priceOf_23 rfl ⟨by first | (rw [q_or, if_neg (fun h => h.1 h1)]; done) | (rw [q_or, if_neg (fun h => h10 h.2)]; done) | (rw [q_or, if_pos ⟨h1, h10⟩]; done), rfl⟩
set_option maxRecDepth 100000 in
set_option maxHeartbeats 4000000 in
theorem c_jarOf {l : Launch} {g : ab_G} {M : ab_M} {a p : Nat} {t tp : Nat × Nat} {v0 v1 : Value} {f : Nat → Int32} {i : Int32} (ha : M a = some (t, .inr (4, [v0, v1, .ref p]))) (hp : M p = some (tp, ab_ai g 10 f)) : AM l g Y_X3_jarOf 0 0 0 0 [.ref a, .int i] M (ab_Qi (fun x M' => x = q_or f 10 i (-4) ∧ M' = M)) := by
  refine AM.of [some (.ref a), some (.int i)] (by decide +kernel) (Nat.le_of_ble_eq_true rfl) rfl ?_
  refine aw_iload_n dX3_jarOf_0 rfl ?_
  refine aw_if_lt (tgt := 13) dX3_jarOf_1 (by decide) (fun h1 => ?_) (fun h1 => ?_)
  · refine aw_bipush (v := -4) dX3_jarOf_13 (by decide) ?_
    refine aw_goto (tgt := 24) dX3_jarOf_15 (by decide) ?_
    exact aw_iret dX3_jarOf_24 rfl ⟨by first | (rw [q_or, if_neg (fun h => h.1 h1)]; done) | (rw [q_or, if_neg (fun h => h10 h.2)]; done) | (rw [q_or, if_pos ⟨h1, h10⟩]; done), rfl⟩
  · refine aw_iload_n dX3_jarOf_4 rfl ?_
    refine aw_aload_n dX3_jarOf_5 rfl ?_
    refine aw_get dX3_jarOf_6 fg_X3_18_4 ha rfl ?_
    refine aw_alen dX3_jarOf_9 hp 0 rfl rfl ?_
    refine aw_icmp_lt (tgt := 18) dX3_jarOf_10 (by decide) (fun h10 => ?_) (fun h10 => ?_)
    · refine aw_aload_n dX3_jarOf_18 rfl ?_
      refine aw_get dX3_jarOf_19 fg_X3_18_4 ha rfl ?_
      refine aw_iload_n dX3_jarOf_22 rfl ?_
      refine aw_iald dX3_jarOf_23 hp (or_in (by decide) h1 h10) ?_
      exact aw_iret dX3_jarOf_24 rfl ⟨by first | (rw [q_or, if_neg (fun h => h.1 h1)]; done) | (rw [q_or, if_neg (fun h => h10 h.2)]; done) | (rw [q_or, if_pos ⟨h1, h10⟩]; done), rfl⟩
    · refine aw_bipush (v := -4) dX3_jarOf_13 (by decide) ?_
      refine aw_goto (tgt := 24) dX3_jarOf_15 (by decide) ?_
      exact aw_iret dX3_jarOf_24 rfl ⟨by first | (rw [q_or, if_neg (fun h => h.1 h1)]; done) | (rw [q_or, if_neg (fun h => h10 h.2)]; done) | (rw [q_or, if_pos ⟨h1, h10⟩]; done), rfl⟩
set_option maxRecDepth 100000 in
set_option maxHeartbeats 4000000 in
theorem c_minutesFrom {l : Launch} {g : ab_G} {M : ab_M} {a b p : Nat} {t tb tp : Nat × Nat} {v0 v1 v2 v4 v5 v6 : Value} {w1 w2 w3 w4 w5 : Value} {f : Nat → Int32} {i : Int32} (ha : M a = some (t, .inr (5, [v0, v1, v2, .ref p, v4, v5, v6]))) (hp : M p = some (tp, ab_ai g 4 f)) (hb : M b = some (tb, .inr (3, [.int i, w1, w2, w3, w4, w5]))) : AM l g Y_X4_minutesFrom 0 0 0 0 [.ref a, .ref b] M (ab_Qi (fun x M' => x = q_or f 4 i 0 ∧ M' = M)) := by
  refine AM.of [some (.ref a), some (.ref b), none] (by decide +kernel) (Nat.le_of_ble_eq_true rfl) rfl ?_
  refine aw_aload_n dX4_minutesFrom_0 rfl ?_
  refine aw_get dX4_minutesFrom_1 fg_X4_32_3 hb rfl ?_
  refine aw_istore_n dX4_minutesFrom_4 rfl (by decide) ?_
  refine aw_iload_n dX4_minutesFrom_5 rfl ?_
  refine aw_if_lt (tgt := 18) dX4_minutesFrom_6 (by decide) (fun h6 => ?_) (fun h6 => ?_)
  · refine aw_iconst (v := 0) dX4_minutesFrom_18 (by decide) ?_
    refine aw_goto (tgt := 28) dX4_minutesFrom_19 (by decide) ?_
    exact aw_iret dX4_minutesFrom_28 rfl ⟨by first | (rw [q_or, if_neg (fun h => h.1 h6)]; done) | (rw [q_or, if_neg (fun h => h15 h.2)]; done) | (rw [q_or, if_pos ⟨h6, h15⟩]; done), rfl⟩
  · refine aw_iload_n dX4_minutesFrom_9 rfl ?_
    refine aw_aload_n dX4_minutesFrom_10 rfl ?_
    refine aw_get dX4_minutesFrom_11 fg_X4_28_5 ha rfl ?_
    refine aw_alen dX4_minutesFrom_14 hp 0 rfl rfl ?_
    refine aw_icmp_lt (tgt := 22) dX4_minutesFrom_15 (by decide) (fun h15 => ?_) (fun h15 => ?_)
    · refine aw_aload_n dX4_minutesFrom_22 rfl ?_
      refine aw_get dX4_minutesFrom_23 fg_X4_28_5 ha rfl ?_
      refine aw_iload_n dX4_minutesFrom_26 rfl ?_
      refine aw_iald dX4_minutesFrom_27 hp (or_in (by decide) h6 h15) ?_
      exact aw_iret dX4_minutesFrom_28 rfl ⟨by first | (rw [q_or, if_neg (fun h => h.1 h6)]; done) | (rw [q_or, if_neg (fun h => h15 h.2)]; done) | (rw [q_or, if_pos ⟨h6, h15⟩]; done), rfl⟩
    · refine aw_iconst (v := 0) dX4_minutesFrom_18 (by decide) ?_
      refine aw_goto (tgt := 28) dX4_minutesFrom_19 (by decide) ?_
      exact aw_iret dX4_minutesFrom_28 rfl ⟨by first | (rw [q_or, if_neg (fun h => h.1 h6)]; done) | (rw [q_or, if_neg (fun h => h15 h.2)]; done) | (rw [q_or, if_pos ⟨h6, h15⟩]; done), rfl⟩
set_option maxRecDepth 100000 in
set_option maxHeartbeats 4000000 in
theorem c_drinkOnce {l : Launch} {g : ab_G} {M : ab_M} {a : Nat} {t : Nat × Nat} {v0 v1 v2 v3 : Value} {h s u : Int32} (ha : M a = some (t, .inr (5, [v0, v1, v2, v3, .int h, .int s, .int u]))) : AM l g Y_X4_drinkOnce 1 21 0 0 [.ref a] M (ab_Qi (fun x M' => x = q_min s h ∧ M' = ab_set M a t (.inr (5, [v0, v1, v2, v3, .int (h - q_min s h), .int s, .int (u + q_min s h)])))) := by
  refine AM.of [some (.ref a), none] (by decide +kernel) (Nat.le_of_ble_eq_true rfl) rfl ?_
  refine aw_aload_n dX4_drinkOnce_0 rfl ?_
  refine aw_get dX4_drinkOnce_1 fg_X4_13_5 ha rfl ?_
  refine aw_aload_n dX4_drinkOnce_4 rfl ?_
  refine aw_get dX4_drinkOnce_5 fg_X4_7_5 ha rfl ?_
  refine aw_S2i (kc' := 0) (ks' := 0) dX4_drinkOnce_8 cs_X4_35 j_min rfl (Nat.le_of_ble_eq_true rfl) (fun x8 M8 h8 => ?_)
  obtain ⟨rfl, e8⟩ := h8
  replace e8 := e8.symm
  subst e8
  refine aw_istore_n dX4_drinkOnce_11 rfl (by decide) ?_
  refine aw_aload_n dX4_drinkOnce_12 rfl ?_
  refine aw_dup dX4_drinkOnce_13 rfl ?_
  refine aw_get dX4_drinkOnce_14 fg_X4_7_5 ha rfl ?_
  refine aw_iload_n dX4_drinkOnce_17 rfl ?_
  refine aw_isub dX4_drinkOnce_18 ?_
  refine aw_put dX4_drinkOnce_19 fl_X4_7_5 ha rfl rfl (Nat.le_of_ble_eq_true rfl) ?_
  refine aw_aload_n dX4_drinkOnce_22 rfl ?_
  refine aw_dup dX4_drinkOnce_23 rfl ?_
  refine aw_get dX4_drinkOnce_24 fg_X4_16_5 ab_set_self rfl ?_
  refine aw_iload_n dX4_drinkOnce_27 rfl ?_
  refine aw_iadd dX4_drinkOnce_28 ?_
  refine aw_put dX4_drinkOnce_29 fl_X4_16_5 ab_set_self rfl rfl (Nat.le_of_ble_eq_true rfl) ?_
  refine aw_iload_n dX4_drinkOnce_32 rfl ?_
  exact aw_iret dX4_drinkOnce_33 rfl ⟨rfl, by rw [ab_set_set]; rfl⟩
