/-! ===== who is there ===== -/
def aL (g : ab_G) (M : ab_M) (a : Nat) (t td : Nat × Nat) (xs : List Nat) : Prop := LG g M a t td xs ∨ (xs = [] ∧ LE g M a t)
theorem aL.sz {g : ab_G} {M : ab_M} {a : Nat} {t td : Nat × Nat} {xs : List Nat} (h : aL g M a t td xs) : ∃ (v0 v1 : Value), M a = some (t, .inr (0, [v0, v1, .int (nI xs.length)])) := by
  rcases h with ⟨mc, d, f, h1, -⟩ | ⟨rfl, mc, h1⟩
  · exact ⟨_, _, h1⟩
  · exact ⟨_, _, h1⟩
theorem aL.lg {g : ab_G} {M : ab_M} {a k x : Nat} {t td : Nat × Nat} {xs : List Nat} (h : aL g M a t td xs) (hk : xs[k]? = some x) : LG g M a t td xs := by
  rcases h with h | ⟨rfl, h⟩
  · exact h
  · simp at hk
theorem aL.le {g : ab_G} {M : ab_M} {a : Nat} {t td : Nat × Nat} {xs : List Nat} (h : aL g M a t td xs) : xs.length ≤ 10 := by
  rcases h with ⟨mc, d, f, h1, h2, h3, h4⟩ | ⟨rfl, h⟩
  · exact h4
  · simp
def q_at (xs : List Nat) (i : Int32) : Option Nat := if i < 0 then none else xs[i.toNatClampNeg]?
theorem i_nat {i : Int32} {n : Nat} (h0 : ¬ i < 0) (h1 : i < nI n) (hn : n < 1000) : ∃ k : Nat, k < n ∧ i = nI k := by
  obtain ⟨h2, h3⟩ := vp_in_iff.mp (or_in hn h0 h1)
  refine ⟨i.toInt.toNat, by omega, ?_⟩
  apply Int32.toInt_inj.mp
  rw [nI_toInt (by omega)]
  omega
theorem q_at_out {xs : List Nat} {i : Int32} (h : i < 0 ∨ ¬ i < nI xs.length) (hl : xs.length ≤ 10) : q_at xs i = none := by
  unfold q_at
  split
  · rfl
  · next h0 =>
    have h1 := h.resolve_left h0
    apply List.getElem?_eq_none
    rw [Int32.lt_iff_toInt_lt, nI_toInt (by omega)] at h1
    rw [Int32.lt_iff_toInt_lt, t_0] at h0
    have e : i.toNatClampNeg = i.toInt.toNat := rfl
    omega
theorem q_at_in {xs : List Nat} {k x : Nat} (hk : xs[k]? = some x) (hl : xs.length ≤ 10) : q_at xs (nI k) = some x := by
  have h1 := (List.getElem?_eq_some_iff.mp hk).1
  unfold q_at
  rw [if_neg (nI_pos (by omega)), nI_cl (by omega)]
  exact hk
set_option maxRecDepth 100000 in
set_option maxHeartbeats 4000000 in
theorem c_fountainAt {l : Launch} {g : ab_G} {M : ab_M} {a lf : Nat} {t tl td : Nat × Nat} {v1 v2 v3 v4 v5 v6 v7 v8 : Value} {xs : List Nat} {i : Int32} (ha : M a = some (t, .inr (9, [.ref lf, v1, v2, v3, v4, v5, v6, v7, v8]))) (hL : aL g M lf tl td xs) (hO : ∀ x ∈ xs, ∃ (tx : Nat × Nat) (fs : List Value), M x = some (tx, .inr (3, fs))) : AM l g Y_X8_fountainAt 3 64 0 0 [.ref a, .int i] M (ab_Qq (fun x M' => x = q_at xs i ∧ M' = M)) := by
  refine AM.of [some (.ref a), some (.int i)] (by decide +kernel) (Nat.le_of_ble_eq_true rfl) rfl ?_
  obtain ⟨u0, u1, hs⟩ := hL.sz
  have hl10 := hL.le
  refine aw_iload_n dX8_fountainAt_0 rfl ?_
  refine aw_if_lt (tgt := 15) dX8_fountainAt_1 (by decide) (fun h1 => ?_) (fun h1 => ?_)
  · have hno := q_at_out (xs := xs) (Or.inl h1) hl10
    refine aw_null dX8_fountainAt_15 ?_
    refine aw_goto (tgt := 30) dX8_fountainAt_16 (by decide) ?_
    exact aw_qret (x := none) dX8_fountainAt_30 rfl (Or.inl ⟨_, rfl⟩) ⟨hno.symm, rfl⟩
  · refine aw_iload_n dX8_fountainAt_4 rfl ?_
    refine aw_aload_n dX8_fountainAt_5 rfl ?_
    refine aw_get dX8_fountainAt_6 fg_X8_10_9 ha rfl ?_
    refine aw_V0i (kc' := 0) (ks' := 0) dX8_fountainAt_9 cs_X8_62_0 hs (j_size hs) rfl (Nat.le_of_ble_eq_true rfl) (fun x9 M9 h9 => ?_)
    obtain ⟨rfl, e9⟩ := h9
    replace e9 := e9.symm
    subst e9
    refine aw_icmp_lt (tgt := 19) dX8_fountainAt_12 (by decide) (fun h12 => ?_) (fun h12 => ?_)
    · obtain ⟨k, hkl, rfl⟩ := i_nat h1 h12 (by omega)
      have hk : xs[k]? = some (xs[k]) := List.getElem?_eq_getElem hkl
      have hLG := hL.lg hk
      obtain ⟨tx, fsx, hx⟩ := hO _ (List.getElem_mem hkl)
      refine aw_aload_n dX8_fountainAt_19 rfl ?_
      refine aw_get dX8_fountainAt_20 fg_X8_10_9 ha rfl ?_
      refine aw_iload_n dX8_fountainAt_23 rfl ?_
      refine aw_V1r (kc' := 0) (ks' := 0) dX8_fountainAt_24 cs_X8_187_0 hs (j_get hLG hk) rfl (Nat.le_of_ble_eq_true rfl) (fun x24 M24 h24 => ?_)
      obtain ⟨rfl, e24⟩ := h24
      replace e24 := e24.symm
      subst e24
      refine aw_castS dX8_fountainAt_27 tw_199 hx rfl ?_
      exact aw_qret (x := some _) dX8_fountainAt_30 rfl (Or.inl ⟨_, rfl⟩) ⟨(q_at_in hk hl10).symm, rfl⟩
    · have hno := q_at_out (xs := xs) (Or.inr h12) hl10
      refine aw_null dX8_fountainAt_15 ?_
      refine aw_goto (tgt := 30) dX8_fountainAt_16 (by decide) ?_
      exact aw_qret (x := none) dX8_fountainAt_30 rfl (Or.inl ⟨_, rfl⟩) ⟨hno.symm, rfl⟩
set_option maxRecDepth 100000 in
set_option maxHeartbeats 4000000 in
theorem c_jarAt {l : Launch} {g : ab_G} {M : ab_M} {a lf : Nat} {t tl td : Nat × Nat} {v0 v2 v3 v4 v5 v6 v7 v8 : Value} {xs : List Nat} {i : Int32} (ha : M a = some (t, .inr (9, [v0, .ref lf, v2, v3, v4, v5, v6, v7, v8]))) (hL : aL g M lf tl td xs) (hO : ∀ x ∈ xs, ∃ (tx : Nat × Nat) (fs : List Value), M x = some (tx, .inr (5, fs))) : AM l g Y_X8_jarAt 3 64 0 0 [.ref a, .int i] M (ab_Qq (fun x M' => x = q_at xs i ∧ M' = M)) := by
  refine AM.of [some (.ref a), some (.int i)] (by decide +kernel) (Nat.le_of_ble_eq_true rfl) rfl ?_
  obtain ⟨u0, u1, hs⟩ := hL.sz
  have hl10 := hL.le
  refine aw_iload_n dX8_jarAt_0 rfl ?_
  refine aw_if_lt (tgt := 15) dX8_jarAt_1 (by decide) (fun h1 => ?_) (fun h1 => ?_)
  · have hno := q_at_out (xs := xs) (Or.inl h1) hl10
    refine aw_null dX8_jarAt_15 ?_
    refine aw_goto (tgt := 30) dX8_jarAt_16 (by decide) ?_
    exact aw_qret (x := none) dX8_jarAt_30 rfl (Or.inl ⟨_, rfl⟩) ⟨hno.symm, rfl⟩
  · refine aw_iload_n dX8_jarAt_4 rfl ?_
    refine aw_aload_n dX8_jarAt_5 rfl ?_
    refine aw_get dX8_jarAt_6 fg_X8_16_9 ha rfl ?_
    refine aw_V0i (kc' := 0) (ks' := 0) dX8_jarAt_9 cs_X8_62_0 hs (j_size hs) rfl (Nat.le_of_ble_eq_true rfl) (fun x9 M9 h9 => ?_)
    obtain ⟨rfl, e9⟩ := h9
    replace e9 := e9.symm
    subst e9
    refine aw_icmp_lt (tgt := 19) dX8_jarAt_12 (by decide) (fun h12 => ?_) (fun h12 => ?_)
    · obtain ⟨k, hkl, rfl⟩ := i_nat h1 h12 (by omega)
      have hk : xs[k]? = some (xs[k]) := List.getElem?_eq_getElem hkl
      have hLG := hL.lg hk
      obtain ⟨tx, fsx, hx⟩ := hO _ (List.getElem_mem hkl)
      refine aw_aload_n dX8_jarAt_19 rfl ?_
      refine aw_get dX8_jarAt_20 fg_X8_16_9 ha rfl ?_
      refine aw_iload_n dX8_jarAt_23 rfl ?_
      refine aw_V1r (kc' := 0) (ks' := 0) dX8_jarAt_24 cs_X8_187_0 hs (j_get hLG hk) rfl (Nat.le_of_ble_eq_true rfl) (fun x24 M24 h24 => ?_)
      obtain ⟨rfl, e24⟩ := h24
      replace e24 := e24.symm
      subst e24
      refine aw_castS dX8_jarAt_27 tw_295 hx rfl ?_
      exact aw_qret (x := some _) dX8_jarAt_30 rfl (Or.inl ⟨_, rfl⟩) ⟨(q_at_in hk hl10).symm, rfl⟩
    · have hno := q_at_out (xs := xs) (Or.inr h12) hl10
      refine aw_null dX8_jarAt_15 ?_
      refine aw_goto (tgt := 30) dX8_jarAt_16 (by decide) ?_
      exact aw_qret (x := none) dX8_jarAt_30 rfl (Or.inl ⟨_, rfl⟩) ⟨hno.symm, rfl⟩
