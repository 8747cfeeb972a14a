/-! ===== a man's ways, by kind: 0 Man, 1 Strong, 2 Donkey ===== -/
def q_wd (k : Nat) (mi p : Int32) : Int32 := if k = 2 then q_cut mi p else mi
def q_cl (k : Nat) (fl : Int32) : Int32 := if k = 0 then fl else if k = 1 then q_cut fl 2 else 0
def q_can (k : Nat) (fl : Int32) : Bool := if k = 0 then decide (fl ≤ 4) else true
set_option maxRecDepth 100000 in
set_option maxHeartbeats 4000000 in
theorem c_walkM {l : Launch} {g : ab_G} {M : ab_M} {a : Nat} {n : Int32} : AM l g Y_X5_walkTime 0 0 0 0 [.ref a, .int n] M (ab_Qi (fun x M' => x = n ∧ M' = M)) := by
  refine AM.of [some (.ref a), some (.int n)] (by decide +kernel) (Nat.le_of_ble_eq_true rfl) rfl ?_
  refine aw_iload_n dX5_walkTime_0 rfl ?_
  exact aw_iret dX5_walkTime_1 rfl ⟨rfl, rfl⟩
set_option maxRecDepth 100000 in
set_option maxHeartbeats 4000000 in
theorem c_walkD {l : Launch} {g : ab_G} {M : ab_M} {a fa : Nat} {t : Nat × Nat} {v0 v1 v3 v4 v5 v6 v7 v8 v9 v10 v11 : Value} {pa : Int32} (ha : M a = some (t, .inr (1, [v0, v1, .ref fa, v3, v4, v5, v6, v7, v8, v9, v10, v11, .int pa]))) {n : Int32} : AM l g Y_X0_walkTime 1 21 0 0 [.ref a, .int n] M (ab_Qi (fun x M' => x = q_cut n pa ∧ M' = M)) := by
  refine AM.of [some (.ref a), some (.int n)] (by decide +kernel) (Nat.le_of_ble_eq_true rfl) rfl ?_
  refine aw_iload_n dX0_walkTime_0 rfl ?_
  refine aw_aload_n dX0_walkTime_1 rfl ?_
  refine aw_get dX0_walkTime_2 fg_X0_9_1 ha rfl ?_
  refine aw_N2i (kc' := 0) (ks' := 0) dX0_walkTime_5 cs_X0_15 c_cutUp rfl (Nat.le_of_ble_eq_true rfl) (fun x5 M5 h5 => ?_)
  obtain ⟨rfl, e5⟩ := h5
  replace e5 := e5.symm
  subst e5
  exact aw_iret dX0_walkTime_8 rfl ⟨rfl, rfl⟩
set_option maxRecDepth 100000 in
set_option maxHeartbeats 4000000 in
theorem c_climbM {l : Launch} {g : ab_G} {M : ab_M} {a : Nat} {n : Int32} : AM l g Y_X5_climbTime 0 0 0 0 [.ref a, .int n] M (ab_Qi (fun x M' => x = n ∧ M' = M)) := by
  refine AM.of [some (.ref a), some (.int n)] (by decide +kernel) (Nat.le_of_ble_eq_true rfl) rfl ?_
  refine aw_iload_n dX5_climbTime_0 rfl ?_
  exact aw_iret dX5_climbTime_1 rfl ⟨rfl, rfl⟩
set_option maxRecDepth 100000 in
set_option maxHeartbeats 4000000 in
theorem c_climbS {l : Launch} {g : ab_G} {M : ab_M} {a : Nat} {n : Int32} : AM l g Y_X7_climbTime 1 21 0 0 [.ref a, .int n] M (ab_Qi (fun x M' => x = q_cut n 2 ∧ M' = M)) := by
  refine AM.of [some (.ref a), some (.int n)] (by decide +kernel) (Nat.le_of_ble_eq_true rfl) rfl ?_
  refine aw_iload_n dX7_climbTime_0 rfl ?_
  refine aw_iconst (v := 2) dX7_climbTime_1 (by decide) ?_
  refine aw_N2i (kc' := 0) (ks' := 0) dX7_climbTime_2 cs_X7_9 c_cutUp rfl (Nat.le_of_ble_eq_true rfl) (fun x2 M2 h2 => ?_)
  obtain ⟨rfl, e2⟩ := h2
  replace e2 := e2.symm
  subst e2
  exact aw_iret dX7_climbTime_5 rfl ⟨rfl, rfl⟩
set_option maxRecDepth 100000 in
set_option maxHeartbeats 4000000 in
theorem c_climbD {l : Launch} {g : ab_G} {M : ab_M} {a : Nat} {n : Int32} : AM l g Y_X0_climbTime 0 0 0 0 [.ref a, .int n] M (ab_Qi (fun x M' => x = 0 ∧ M' = M)) := by
  refine AM.of [some (.ref a), some (.int n)] (by decide +kernel) (Nat.le_of_ble_eq_true rfl) rfl ?_
  refine aw_iconst (v := 0) dX0_climbTime_0 (by decide) ?_
  exact aw_iret dX0_climbTime_1 rfl ⟨rfl, rfl⟩
set_option maxRecDepth 100000 in
set_option maxHeartbeats 4000000 in
theorem c_canM {l : Launch} {g : ab_G} {M : ab_M} {a b : Nat} {tb : Nat × Nat} {w0 w2 w3 w4 w5 w6 : Value} {fl : Int32} (hb : M b = some (tb, .inr (5, [w0, .int fl, w2, w3, w4, w5, w6]))) : AM l g Y_X5_canGoTo 0 0 0 0 [.ref a, .ref b] M (ab_Qi (fun x M' => x = b2i (q_can 0 fl) ∧ M' = M)) := by
  refine AM.of [some (.ref a), some (.ref b)] (by decide +kernel) (Nat.le_of_ble_eq_true rfl) rfl ?_
  refine aw_aload_n dX5_canGoTo_0 rfl ?_
  refine aw_get dX5_canGoTo_1 fg_X5_50_5 hb rfl ?_
  refine aw_iconst (v := 4) dX5_canGoTo_4 (by decide) ?_
  refine aw_icmp_gt (tgt := 12) dX5_canGoTo_5 (by decide) (fun h5 => ?_) (fun h5 => ?_)
  · refine aw_iconst (v := 0) dX5_canGoTo_12 (by decide) ?_
    exact aw_zret dX5_canGoTo_13 rfl rfl ⟨by rw [b2i]; split <;> simp_all [q_can, Int32.le_iff_toInt_le, Int32.lt_iff_toInt_lt] <;> omega, rfl⟩
  · refine aw_iconst (v := 1) dX5_canGoTo_8 (by decide) ?_
    refine aw_goto (tgt := 13) dX5_canGoTo_9 (by decide) ?_
    exact aw_zret dX5_canGoTo_13 rfl rfl ⟨by rw [b2i]; split <;> simp_all [q_can, Int32.le_iff_toInt_le, Int32.lt_iff_toInt_lt] <;> omega, rfl⟩
set_option maxRecDepth 100000 in
set_option maxHeartbeats 4000000 in
theorem c_canS {l : Launch} {g : ab_G} {M : ab_M} {a b : Nat} : AM l g Y_X7_canGoTo 0 0 0 0 [.ref a, .ref b] M (ab_Qi (fun x M' => x = 1 ∧ M' = M)) := by
  refine AM.of [some (.ref a), some (.ref b)] (by decide +kernel) (Nat.le_of_ble_eq_true rfl) rfl ?_
  refine aw_iconst (v := 1) dX7_canGoTo_0 (by decide) ?_
  exact aw_zret dX7_canGoTo_1 rfl rfl ⟨rfl, rfl⟩
set_option maxRecDepth 100000 in
set_option maxHeartbeats 4000000 in
theorem c_wayDown0 {l : Launch} {g : ab_G} {M : ab_M} {a fa : Nat} {t : Nat × Nat} {v0 v1 v3 v4 v5 v6 v7 v8 v9 v10 v11 : Value} {pa : Int32} (ha : M a = some (t, .inr (6, [v0, v1, .ref fa, v3, v4, v5, v6, v7, v8, v9, v10, v11]))) {b p : Nat} {tb tp tf : Nat × Nat} {w0 w2 w4 w5 w6 y1 y2 y3 y4 y5 : Value} {fl i : Int32} {f : Nat → Int32} (hb : M b = some (tb, .inr (5, [w0, .int fl, w2, .ref p, w4, w5, w6]))) (hp : M p = some (tp, ab_ai g 4 f)) (hff : M fa = some (tf, .inr (3, [.int i, y1, y2, y3, y4, y5]))) : AM l g Y_X5_wayDown 2 42 0 0 [.ref a, .ref b] M (ab_Qi (fun x M' => x = q_wd 0 (q_or f 4 i 0) pa ∧ M' = M)) := by
  refine AM.of [some (.ref a), some (.ref b)] (by decide +kernel) (Nat.le_of_ble_eq_true rfl) rfl ?_
  refine aw_aload_n dX5_wayDown_0 rfl ?_
  refine aw_aload_n dX5_wayDown_1 rfl ?_
  refine aw_aload_n dX5_wayDown_2 rfl ?_
  refine aw_get dX5_wayDown_3 fg_X5_42_6 ha rfl ?_
  refine aw_V1i (kc' := 0) (ks' := 0) dX5_wayDown_6 cs_X5_63_5 hb (c_minutesFrom hb hp hff) rfl (Nat.le_of_ble_eq_true rfl) (fun x6 M6 h6 => ?_)
  obtain ⟨rfl, e6⟩ := h6
  replace e6 := e6.symm
  subst e6
  refine aw_V1i (kc' := 0) (ks' := 0) dX5_wayDown_9 cs_X5_67_6 ha c_walkM rfl (Nat.le_of_ble_eq_true rfl) (fun x9 M9 h9 => ?_)
  obtain ⟨rfl, e9⟩ := h9
  replace e9 := e9.symm
  subst e9
  exact aw_iret dX5_wayDown_12 rfl ⟨rfl, rfl⟩
set_option maxRecDepth 100000 in
set_option maxHeartbeats 4000000 in
theorem c_wayUp0 {l : Launch} {g : ab_G} {M : ab_M} {a fa : Nat} {t : Nat × Nat} {v0 v1 v3 v4 v5 v6 v7 v8 v9 v10 v11 : Value} {pa : Int32} (ha : M a = some (t, .inr (6, [v0, v1, .ref fa, v3, v4, v5, v6, v7, v8, v9, v10, v11]))) {b p : Nat} {tb tp tf : Nat × Nat} {w0 w2 w4 w5 w6 y1 y2 y3 y4 y5 : Value} {fl i : Int32} {f : Nat → Int32} (hb : M b = some (tb, .inr (5, [w0, .int fl, w2, .ref p, w4, w5, w6]))) (hp : M p = some (tp, ab_ai g 4 f)) (hff : M fa = some (tf, .inr (3, [.int i, y1, y2, y3, y4, y5]))) : AM l g Y_X5_wayUp 3 63 0 0 [.ref a, .ref b] M (ab_Qi (fun x M' => x = q_wd 0 (q_or f 4 i 0) pa + q_cl 0 fl ∧ M' = M)) := by
  refine AM.of [some (.ref a), some (.ref b)] (by decide +kernel) (Nat.le_of_ble_eq_true rfl) rfl ?_
  refine aw_aload_n dX5_wayUp_0 rfl ?_
  refine aw_aload_n dX5_wayUp_1 rfl ?_
  refine aw_V1i (kc' := 0) (ks' := 0) dX5_wayUp_2 cs_X5_55_6 ha (c_wayDown0 (pa := pa) ha hb hp hff) rfl (Nat.le_of_ble_eq_true rfl) (fun x2 M2 h2 => ?_)
  obtain ⟨rfl, e2⟩ := h2
  replace e2 := e2.symm
  subst e2
  refine aw_aload_n dX5_wayUp_5 rfl ?_
  refine aw_aload_n dX5_wayUp_6 rfl ?_
  refine aw_get dX5_wayUp_7 fg_X5_50_5 hb rfl ?_
  refine aw_V1i (kc' := 0) (ks' := 0) dX5_wayUp_10 cs_X5_59_6 ha c_climbM rfl (Nat.le_of_ble_eq_true rfl) (fun x10 M10 h10 => ?_)
  obtain ⟨rfl, e10⟩ := h10
  replace e10 := e10.symm
  subst e10
  refine aw_iadd dX5_wayUp_13 ?_
  exact aw_iret dX5_wayUp_14 rfl ⟨rfl, rfl⟩
set_option maxRecDepth 100000 in
set_option maxHeartbeats 4000000 in
theorem c_toilFor0 {l : Launch} {g : ab_G} {M : ab_M} {a fa : Nat} {t : Nat × Nat} {v0 v1 v3 v4 v5 v6 v7 v8 v9 v10 v11 : Value} {pa : Int32} (ha : M a = some (t, .inr (6, [v0, v1, .ref fa, v3, v4, v5, v6, v7, v8, v9, v10, v11]))) {b p : Nat} {tb tp tf : Nat × Nat} {w0 w2 w4 w5 w6 y1 y2 y3 y4 y5 : Value} {fl i : Int32} {f : Nat → Int32} (hb : M b = some (tb, .inr (5, [w0, .int fl, w2, .ref p, w4, w5, w6]))) (hp : M p = some (tp, ab_ai g 4 f)) (hff : M fa = some (tf, .inr (3, [.int i, y1, y2, y3, y4, y5]))) : AM l g Y_X5_toilFor 4 84 0 0 [.ref a, .ref b] M (ab_Qi (fun x M' => x = (if q_can 0 fl = true then q_wd 0 (q_or f 4 i 0) pa + q_cl 0 fl + q_wd 0 (q_or f 4 i 0) pa else -1) ∧ M' = M)) := by
  refine AM.of [some (.ref a), some (.ref b)] (by decide +kernel) (Nat.le_of_ble_eq_true rfl) rfl ?_
  refine aw_aload_n dX5_toilFor_0 rfl ?_
  refine aw_aload_n dX5_toilFor_1 rfl ?_
  refine aw_V1i (kc' := 0) (ks' := 0) dX5_toilFor_2 cs_X5_70_6 ha (c_canM hb) rfl (Nat.le_of_ble_eq_true rfl) (fun x2 M2 h2 => ?_)
  obtain ⟨rfl, e2⟩ := h2
  replace e2 := e2.symm
  subst e2
  refine aw_if_eq (tgt := 22) dX5_toilFor_5 (by decide) (fun h5 => ?_) (fun h5 => ?_)
  · replace h5 := b2i_0.mp h5
    refine aw_iconst (v := -1) dX5_toilFor_22 (by decide) ?_
    exact aw_iret dX5_toilFor_23 rfl ⟨by first | (rw [if_pos h5]; done) | (rw [if_neg (by rw [h5]; decide)]; done) | rfl, rfl⟩
  · replace h5 := b2i_n.mp h5
    refine aw_aload_n dX5_toilFor_8 rfl ?_
    refine aw_aload_n dX5_toilFor_9 rfl ?_
    refine aw_V1i (kc' := 0) (ks' := 0) dX5_toilFor_10 cs_X5_74_6 ha (c_wayUp0 (pa := pa) ha hb hp hff) rfl (Nat.le_of_ble_eq_true rfl) (fun x10 M10 h10 => ?_)
    obtain ⟨rfl, e10⟩ := h10
    replace e10 := e10.symm
    subst e10
    refine aw_aload_n dX5_toilFor_13 rfl ?_
    refine aw_aload_n dX5_toilFor_14 rfl ?_
    refine aw_V1i (kc' := 0) (ks' := 0) dX5_toilFor_15 cs_X5_55_6 ha (c_wayDown0 (pa := pa) ha hb hp hff) rfl (Nat.le_of_ble_eq_true rfl) (fun x15 M15 h15 => ?_)
    obtain ⟨rfl, e15⟩ := h15
    replace e15 := e15.symm
    subst e15
    refine aw_iadd dX5_toilFor_18 ?_
    refine aw_goto (tgt := 23) dX5_toilFor_19 (by decide) ?_
    exact aw_iret dX5_toilFor_23 rfl ⟨by first | (rw [if_pos h5]; done) | (rw [if_neg (by rw [h5]; decide)]; done) | rfl, rfl⟩
set_option maxRecDepth 100000 in
set_option maxHeartbeats 4000000 in
theorem c_wayDown1 {l : Launch} {g : ab_G} {M : ab_M} {a fa : Nat} {t : Nat × Nat} {v0 v1 v3 v4 v5 v6 v7 v8 v9 v10 v11 : Value} {pa : Int32} (ha : M a = some (t, .inr (8, [v0, v1, .ref fa, v3, v4, v5, v6, v7, v8, v9, v10, v11]))) {b p : Nat} {tb tp tf : Nat × Nat} {w0 w2 w4 w5 w6 y1 y2 y3 y4 y5 : Value} {fl i : Int32} {f : Nat → Int32} (hb : M b = some (tb, .inr (5, [w0, .int fl, w2, .ref p, w4, w5, w6]))) (hp : M p = some (tp, ab_ai g 4 f)) (hff : M fa = some (tf, .inr (3, [.int i, y1, y2, y3, y4, y5]))) : AM l g Y_X5_wayDown 2 42 0 0 [.ref a, .ref b] M (ab_Qi (fun x M' => x = q_wd 1 (q_or f 4 i 0) pa ∧ M' = M)) := by
  refine AM.of [some (.ref a), some (.ref b)] (by decide +kernel) (Nat.le_of_ble_eq_true rfl) rfl ?_
  refine aw_aload_n dX5_wayDown_0 rfl ?_
  refine aw_aload_n dX5_wayDown_1 rfl ?_
  refine aw_aload_n dX5_wayDown_2 rfl ?_
  refine aw_get dX5_wayDown_3 fg_X5_42_8 ha rfl ?_
  refine aw_V1i (kc' := 0) (ks' := 0) dX5_wayDown_6 cs_X5_63_5 hb (c_minutesFrom hb hp hff) rfl (Nat.le_of_ble_eq_true rfl) (fun x6 M6 h6 => ?_)
  obtain ⟨rfl, e6⟩ := h6
  replace e6 := e6.symm
  subst e6
  refine aw_V1i (kc' := 0) (ks' := 0) dX5_wayDown_9 cs_X5_67_8 ha c_walkM rfl (Nat.le_of_ble_eq_true rfl) (fun x9 M9 h9 => ?_)
  obtain ⟨rfl, e9⟩ := h9
  replace e9 := e9.symm
  subst e9
  exact aw_iret dX5_wayDown_12 rfl ⟨rfl, rfl⟩
set_option maxRecDepth 100000 in
set_option maxHeartbeats 4000000 in
theorem c_wayUp1 {l : Launch} {g : ab_G} {M : ab_M} {a fa : Nat} {t : Nat × Nat} {v0 v1 v3 v4 v5 v6 v7 v8 v9 v10 v11 : Value} {pa : Int32} (ha : M a = some (t, .inr (8, [v0, v1, .ref fa, v3, v4, v5, v6, v7, v8, v9, v10, v11]))) {b p : Nat} {tb tp tf : Nat × Nat} {w0 w2 w4 w5 w6 y1 y2 y3 y4 y5 : Value} {fl i : Int32} {f : Nat → Int32} (hb : M b = some (tb, .inr (5, [w0, .int fl, w2, .ref p, w4, w5, w6]))) (hp : M p = some (tp, ab_ai g 4 f)) (hff : M fa = some (tf, .inr (3, [.int i, y1, y2, y3, y4, y5]))) : AM l g Y_X5_wayUp 3 63 0 0 [.ref a, .ref b] M (ab_Qi (fun x M' => x = q_wd 1 (q_or f 4 i 0) pa + q_cl 1 fl ∧ M' = M)) := by
  refine AM.of [some (.ref a), some (.ref b)] (by decide +kernel) (Nat.le_of_ble_eq_true rfl) rfl ?_
  refine aw_aload_n dX5_wayUp_0 rfl ?_
  refine aw_aload_n dX5_wayUp_1 rfl ?_
  refine aw_V1i (kc' := 0) (ks' := 0) dX5_wayUp_2 cs_X5_55_8 ha (c_wayDown1 (pa := pa) ha hb hp hff) rfl (Nat.le_of_ble_eq_true rfl) (fun x2 M2 h2 => ?_)
  obtain ⟨rfl, e2⟩ := h2
  replace e2 := e2.symm
  subst e2
  refine aw_aload_n dX5_wayUp_5 rfl ?_
  refine aw_aload_n dX5_wayUp_6 rfl ?_
  refine aw_get dX5_wayUp_7 fg_X5_50_5 hb rfl ?_
  refine aw_V1i (kc' := 0) (ks' := 0) dX5_wayUp_10 cs_X5_59_8 ha c_climbS rfl (Nat.le_of_ble_eq_true rfl) (fun x10 M10 h10 => ?_)
  obtain ⟨rfl, e10⟩ := h10
  replace e10 := e10.symm
  subst e10
  refine aw_iadd dX5_wayUp_13 ?_
  exact aw_iret dX5_wayUp_14 rfl ⟨rfl, rfl⟩
set_option maxRecDepth 100000 in
set_option maxHeartbeats 4000000 in
theorem c_toilFor1 {l : Launch} {g : ab_G} {M : ab_M} {a fa : Nat} {t : Nat × Nat} {v0 v1 v3 v4 v5 v6 v7 v8 v9 v10 v11 : Value} {pa : Int32} (ha : M a = some (t, .inr (8, [v0, v1, .ref fa, v3, v4, v5, v6, v7, v8, v9, v10, v11]))) {b p : Nat} {tb tp tf : Nat × Nat} {w0 w2 w4 w5 w6 y1 y2 y3 y4 y5 : Value} {fl i : Int32} {f : Nat → Int32} (hb : M b = some (tb, .inr (5, [w0, .int fl, w2, .ref p, w4, w5, w6]))) (hp : M p = some (tp, ab_ai g 4 f)) (hff : M fa = some (tf, .inr (3, [.int i, y1, y2, y3, y4, y5]))) : AM l g Y_X5_toilFor 4 84 0 0 [.ref a, .ref b] M (ab_Qi (fun x M' => x = (if q_can 1 fl = true then q_wd 1 (q_or f 4 i 0) pa + q_cl 1 fl + q_wd 1 (q_or f 4 i 0) pa else -1) ∧ M' = M)) := by
  refine AM.of [some (.ref a), some (.ref b)] (by decide +kernel) (Nat.le_of_ble_eq_true rfl) rfl ?_
  refine aw_aload_n dX5_toilFor_0 rfl ?_
  refine aw_aload_n dX5_toilFor_1 rfl ?_
  refine aw_V1i (kc' := 0) (ks' := 0) dX5_toilFor_2 cs_X5_70_8 ha c_canS rfl (Nat.le_of_ble_eq_true rfl) (fun x2 M2 h2 => ?_)
  obtain ⟨rfl, e2⟩ := h2
  replace e2 := e2.symm
  subst e2
  refine aw_if_eq (tgt := 22) dX5_toilFor_5 (by decide) (fun h5 => absurd h5 (by decide)) (fun h5 => ?_)
  refine aw_aload_n dX5_toilFor_8 rfl ?_
  refine aw_aload_n dX5_toilFor_9 rfl ?_
  refine aw_V1i (kc' := 0) (ks' := 0) dX5_toilFor_10 cs_X5_74_8 ha (c_wayUp1 (pa := pa) ha hb hp hff) rfl (Nat.le_of_ble_eq_true rfl) (fun x10 M10 h10 => ?_)
  obtain ⟨rfl, e10⟩ := h10
  replace e10 := e10.symm
  subst e10
  refine aw_aload_n dX5_toilFor_13 rfl ?_
  refine aw_aload_n dX5_toilFor_14 rfl ?_
  refine aw_V1i (kc' := 0) (ks' := 0) dX5_toilFor_15 cs_X5_55_8 ha (c_wayDown1 (pa := pa) ha hb hp hff) rfl (Nat.le_of_ble_eq_true rfl) (fun x15 M15 h15 => ?_)
  obtain ⟨rfl, e15⟩ := h15
  replace e15 := e15.symm
  subst e15
  refine aw_iadd dX5_toilFor_18 ?_
  refine aw_goto (tgt := 23) dX5_toilFor_19 (by decide) ?_
  exact aw_iret dX5_toilFor_23 rfl ⟨by first | (rw [if_pos h5]; done) | (rw [if_neg (by rw [h5]; decide)]; done) | rfl, rfl⟩
set_option maxRecDepth 100000 in
set_option maxHeartbeats 4000000 in
theorem c_wayDown2 {l : Launch} {g : ab_G} {M : ab_M} {a fa : Nat} {t : Nat × Nat} {v0 v1 v3 v4 v5 v6 v7 v8 v9 v10 v11 : Value} {pa : Int32} (ha : M a = some (t, .inr (1, [v0, v1, .ref fa, v3, v4, v5, v6, v7, v8, v9, v10, v11, .int pa]))) {b p : Nat} {tb tp tf : Nat × Nat} {w0 w2 w4 w5 w6 y1 y2 y3 y4 y5 : Value} {fl i : Int32} {f : Nat → Int32} (hb : M b = some (tb, .inr (5, [w0, .int fl, w2, .ref p, w4, w5, w6]))) (hp : M p = some (tp, ab_ai g 4 f)) (hff : M fa = some (tf, .inr (3, [.int i, y1, y2, y3, y4, y5]))) : AM l g Y_X5_wayDown 2 42 0 0 [.ref a, .ref b] M (ab_Qi (fun x M' => x = q_wd 2 (q_or f 4 i 0) pa ∧ M' = M)) := by
  refine AM.of [some (.ref a), some (.ref b)] (by decide +kernel) (Nat.le_of_ble_eq_true rfl) rfl ?_
  refine aw_aload_n dX5_wayDown_0 rfl ?_
  refine aw_aload_n dX5_wayDown_1 rfl ?_
  refine aw_aload_n dX5_wayDown_2 rfl ?_
  refine aw_get dX5_wayDown_3 fg_X5_42_1 ha rfl ?_
  refine aw_V1i (kc' := 0) (ks' := 0) dX5_wayDown_6 cs_X5_63_5 hb (c_minutesFrom hb hp hff) rfl (Nat.le_of_ble_eq_true rfl) (fun x6 M6 h6 => ?_)
  obtain ⟨rfl, e6⟩ := h6
  replace e6 := e6.symm
  subst e6
  refine aw_V1i (kc' := 0) (ks' := 0) dX5_wayDown_9 cs_X5_67_1 ha (c_walkD ha) rfl (Nat.le_of_ble_eq_true rfl) (fun x9 M9 h9 => ?_)
  obtain ⟨rfl, e9⟩ := h9
  replace e9 := e9.symm
  subst e9
  exact aw_iret dX5_wayDown_12 rfl ⟨rfl, rfl⟩
set_option maxRecDepth 100000 in
set_option maxHeartbeats 4000000 in
theorem c_wayUp2 {l : Launch} {g : ab_G} {M : ab_M} {a fa : Nat} {t : Nat × Nat} {v0 v1 v3 v4 v5 v6 v7 v8 v9 v10 v11 : Value} {pa : Int32} (ha : M a = some (t, .inr (1, [v0, v1, .ref fa, v3, v4, v5, v6, v7, v8, v9, v10, v11, .int pa]))) {b p : Nat} {tb tp tf : Nat × Nat} {w0 w2 w4 w5 w6 y1 y2 y3 y4 y5 : Value} {fl i : Int32} {f : Nat → Int32} (hb : M b = some (tb, .inr (5, [w0, .int fl, w2, .ref p, w4, w5, w6]))) (hp : M p = some (tp, ab_ai g 4 f)) (hff : M fa = some (tf, .inr (3, [.int i, y1, y2, y3, y4, y5]))) : AM l g Y_X5_wayUp 3 63 0 0 [.ref a, .ref b] M (ab_Qi (fun x M' => x = q_wd 2 (q_or f 4 i 0) pa + q_cl 2 fl ∧ M' = M)) := by
  refine AM.of [some (.ref a), some (.ref b)] (by decide +kernel) (Nat.le_of_ble_eq_true rfl) rfl ?_
  refine aw_aload_n dX5_wayUp_0 rfl ?_
  refine aw_aload_n dX5_wayUp_1 rfl ?_
  refine aw_V1i (kc' := 0) (ks' := 0) dX5_wayUp_2 cs_X5_55_1 ha (c_wayDown2 (pa := pa) ha hb hp hff) rfl (Nat.le_of_ble_eq_true rfl) (fun x2 M2 h2 => ?_)
  obtain ⟨rfl, e2⟩ := h2
  replace e2 := e2.symm
  subst e2
  refine aw_aload_n dX5_wayUp_5 rfl ?_
  refine aw_aload_n dX5_wayUp_6 rfl ?_
  refine aw_get dX5_wayUp_7 fg_X5_50_5 hb rfl ?_
  refine aw_V1i (kc' := 0) (ks' := 0) dX5_wayUp_10 cs_X5_59_1 ha c_climbD rfl (Nat.le_of_ble_eq_true rfl) (fun x10 M10 h10 => ?_)
  obtain ⟨rfl, e10⟩ := h10
  replace e10 := e10.symm
  subst e10
  refine aw_iadd dX5_wayUp_13 ?_
  exact aw_iret dX5_wayUp_14 rfl ⟨rfl, rfl⟩
set_option maxRecDepth 100000 in
set_option maxHeartbeats 4000000 in
theorem c_toilFor2 {l : Launch} {g : ab_G} {M : ab_M} {a fa : Nat} {t : Nat × Nat} {v0 v1 v3 v4 v5 v6 v7 v8 v9 v10 v11 : Value} {pa : Int32} (ha : M a = some (t, .inr (1, [v0, v1, .ref fa, v3, v4, v5, v6, v7, v8, v9, v10, v11, .int pa]))) {b p : Nat} {tb tp tf : Nat × Nat} {w0 w2 w4 w5 w6 y1 y2 y3 y4 y5 : Value} {fl i : Int32} {f : Nat → Int32} (hb : M b = some (tb, .inr (5, [w0, .int fl, w2, .ref p, w4, w5, w6]))) (hp : M p = some (tp, ab_ai g 4 f)) (hff : M fa = some (tf, .inr (3, [.int i, y1, y2, y3, y4, y5]))) : AM l g Y_X5_toilFor 4 84 0 0 [.ref a, .ref b] M (ab_Qi (fun x M' => x = (if q_can 2 fl = true then q_wd 2 (q_or f 4 i 0) pa + q_cl 2 fl + q_wd 2 (q_or f 4 i 0) pa else -1) ∧ M' = M)) := by
  refine AM.of [some (.ref a), some (.ref b)] (by decide +kernel) (Nat.le_of_ble_eq_true rfl) rfl ?_
  refine aw_aload_n dX5_toilFor_0 rfl ?_
  refine aw_aload_n dX5_toilFor_1 rfl ?_
  refine aw_V1i (kc' := 0) (ks' := 0) dX5_toilFor_2 cs_X5_70_1 ha c_canS rfl (Nat.le_of_ble_eq_true rfl) (fun x2 M2 h2 => ?_)
  obtain ⟨rfl, e2⟩ := h2
  replace e2 := e2.symm
  subst e2
  refine aw_if_eq (tgt := 22) dX5_toilFor_5 (by decide) (fun h5 => absurd h5 (by decide)) (fun h5 => ?_)
  refine aw_aload_n dX5_toilFor_8 rfl ?_
  refine aw_aload_n dX5_toilFor_9 rfl ?_
  refine aw_V1i (kc' := 0) (ks' := 0) dX5_toilFor_10 cs_X5_74_1 ha (c_wayUp2 (pa := pa) ha hb hp hff) rfl (Nat.le_of_ble_eq_true rfl) (fun x10 M10 h10 => ?_)
  obtain ⟨rfl, e10⟩ := h10
  replace e10 := e10.symm
  subst e10
  refine aw_aload_n dX5_toilFor_13 rfl ?_
  refine aw_aload_n dX5_toilFor_14 rfl ?_
  refine aw_V1i (kc' := 0) (ks' := 0) dX5_toilFor_15 cs_X5_55_1 ha (c_wayDown2 (pa := pa) ha hb hp hff) rfl (Nat.le_of_ble_eq_true rfl) (fun x15 M15 h15 => ?_)
  obtain ⟨rfl, e15⟩ := h15
  replace e15 := e15.symm
  subst e15
  refine aw_iadd dX5_toilFor_18 ?_
  refine aw_goto (tgt := 23) dX5_toilFor_19 (by decide) ?_
  exact aw_iret dX5_toilFor_23 rfl ⟨by first | (rw [if_pos h5]; done) | (rw [if_neg (by rw [h5]; decide)]; done) | rfl, rfl⟩
