/-! ===== the class's tape, 3 ===== -/
/-- tags are ghosts: they may be changed -/
theorem ab_R_tag {g : ab_G} {M M2 : ab_M} {H : Heap} (h : ∀ (a : Nat) (t : Nat × Nat) (e : va_E), M2 a = some (t, e) → ∃ t0, M a = some (t0, e)) (hR : ab_R g M H) : ab_R g M2 H := by
  obtain ⟨ws, h1, h2, h3⟩ := hR
  refine ⟨ws, h1, h2, fun a t e h4 => ?_⟩
  obtain ⟨t0, h5⟩ := h a t e h4
  exact h3 a t0 e h5
theorem AW.tag {l : Launch} {g : ab_G} {X : State → Array Value → Prop} {Z : List Frame → Array Value → State → Room → State → Prop} {y : ab_Y} {F Lw kc ks : Nat} {pc : Nat} {L : List (Option Value)} {st : List Value} {M M2 : ab_M} (h : ∀ (a : Nat) (t : Nat × Nat) (e : va_E), M2 a = some (t, e) → ∃ t0, M a = some (t0, e)) (k : AW l g X Z y F Lw kc ks pc L st M2) : AW l g X Z y F Lw kc ks pc L st M :=
  fun p e R s m args below meth c H locs cells slots ls C c1 c2 hS hR hl => k p e R s m args below meth c H locs cells slots ls C c1 c2 hS (ab_R_tag h hR) hl
def sw_M (M : ab_M) (p q : Nat) (t1 t2 : Nat × Nat) (e1 e2 : va_E) : ab_M := fun a => if a = p then some (t2, e1) else if a = q then some (t1, e2) else M a
def sw_α (α : Nat → Nat → Nat) : Nat → Nat → Nat := fun i k => if i = 4 ∧ k = 1 then α 4 2 else if i = 4 ∧ k = 2 then α 4 1 else α i k
theorem sw_ok {M : ab_M} {p q : Nat} {t1 t2 : Nat × Nat} {e1 e2 : va_E} (h1 : M p = some (t1, e1)) (h2 : M q = some (t2, e2)) : ∀ (a : Nat) (t : Nat × Nat) (e : va_E), sw_M M p q t1 t2 e1 e2 a = some (t, e) → ∃ t0, M a = some (t0, e) := by
  intro a t e h
  unfold sw_M at h
  split at h
  · next h3 =>
    cases h
    rw [h3]
    exact ⟨_, h1⟩
  · split at h
    · next h3 =>
      cases h
      rw [h3]
      exact ⟨_, h2⟩
    · exact ⟨t, h⟩
theorem sw_kt {M : ab_M} {p q : Nat} {e1 e2 : va_E} (h1 : M p = some ((4, 1), e1)) (h2 : M q = some ((4, 2), e2)) : KT (fun t => t.1 = 4) M (sw_M M p q (4, 1) (4, 2) e1 e2) := by
  intro a t e h ht
  unfold sw_M
  rw [if_neg, if_neg]
  · exact h
  · intro e3
    rw [e3, h2] at h
    cases h
    exact ht rfl
  · intro e3
    rw [e3, h1] at h
    cases h
    exact ht rfl
/-- prices and draft change places -/
def g_swap (κ : cS) : cS := cr (cr κ 33 (κ.1.2.1 34)) 34 (κ.1.2.1 33)
theorem cswap {g : ab_G} {M : ab_M} {α : Nat → Nat → Nat} {nf nj nm : Nat} {κ : cS} (hC : CC g M α nf nj nm κ) {M1 : ab_M} (h1 : M1 = ab_set M (α 3 0) (3, 0) (.inr (2, [.ref (α 4 0), .ref (α 4 2), .ref (α 4 1), .int (κ.1.1 31), .int (κ.1.1 32)]))) : CC g (sw_M M1 (α 4 1) (α 4 2) (4, 1) (4, 2) (ab_ai g 10 (κ.1.2.1 33)) (ab_ai g 10 (κ.1.2.1 34))) (sw_α α) nf nj nm (g_swap κ) ∧ KH M (sw_M M1 (α 4 1) (α 4 2) (4, 1) (4, 2) (ab_ai g 10 (κ.1.2.1 33)) (ab_ai g 10 (κ.1.2.1 34))) := by
  obtain ⟨hW, hA, hP, hG, hU, hF, hJ, hN, hL, hQ⟩ := hC
  have hK1 : KT (fun t => t = (3, 0)) M M1 := by rw [h1]; exact KT.put KT.rf hA.1 rfl
  have hp : M1 (α 4 1) = some ((4, 1), ab_ai g 10 (κ.1.2.1 33)) := hK1 _ _ _ hA.2.2.1 (fun h => by cases h)
  have hd : M1 (α 4 2) = some ((4, 2), ab_ai g 10 (κ.1.2.1 34)) := hK1 _ _ _ hA.2.2.2 (fun h => by cases h)
  have ht : M1 (α 4 0) = some ((4, 0), ab_ai g 50 (κ.1.2.1 30)) := hK1 _ _ _ hA.2.1 (fun h => by cases h)
  have ho : M1 (α 3 0) = some ((3, 0), .inr (2, [.ref (α 4 0), .ref (α 4 2), .ref (α 4 1), .int (κ.1.1 31), .int (κ.1.1 32)])) := by rw [h1]; exact ab_set_self
  have hne : α 4 2 ≠ α 4 1 := fun e => by rw [e, hp] at hd; cases hd
  have hK2 := sw_kt hp hd
  have hK : KT (fun t => t.1 = 3 ∨ t.1 = 4) M (sw_M M1 (α 4 1) (α 4 2) (4, 1) (4, 2) (ab_ai g 10 (κ.1.2.1 33)) (ab_ai g 10 (κ.1.2.1 34))) := (hK1.wid (fun t h => by rw [h]; exact Or.inl rfl)).tr (hK2.wid (fun t h => Or.inr h))
  refine ⟨⟨hW.kp hK (by simp), ⟨hK2 _ _ _ ho (by simp), ?_, ?_, ?_⟩, hP.kp hK (by simp) (by simp), hG.kp hK (by simp) (by simp), hU.kp hK (by simp), hF.kp hK (by simp), hJ.kp hK (by simp) (by simp), hN.kp hK (by simp), hL.kp hK (by simp) (by simp), hQ.kp hK (by simp) (by simp)⟩, hK.wid (fun t h => by omega)⟩
  · show sw_M M1 (α 4 1) (α 4 2) (4, 1) (4, 2) (ab_ai g 10 (κ.1.2.1 33)) (ab_ai g 10 (κ.1.2.1 34)) (α 4 0) = _
    unfold sw_M
    rw [if_neg (fun e => by rw [e, hp] at ht; cases ht), if_neg (fun e => by rw [e, hd] at ht; cases ht)]
    exact ht
  · show sw_M M1 (α 4 1) (α 4 2) (4, 1) (4, 2) (ab_ai g 10 (κ.1.2.1 33)) (ab_ai g 10 (κ.1.2.1 34)) (α 4 2) = _
    unfold sw_M
    rw [if_neg hne, if_pos rfl]
    rfl
  · show sw_M M1 (α 4 1) (α 4 2) (4, 1) (4, 2) (ab_ai g 10 (κ.1.2.1 33)) (ab_ai g 10 (κ.1.2.1 34)) (α 4 1) = _
    unfold sw_M
    rw [if_pos rfl]
    rfl
set_option maxRecDepth 100000 in
set_option maxHeartbeats 4000000 in
theorem c_useDraft {l : Launch} {g : ab_G} {M : ab_M} {α : Nat → Nat → Nat} {nf nj nm : Nat} {κ : cS} (hC : CC g M α nf nj nm κ) : AM l g Y_X1_useDraft 0 0 0 0 [.ref (α 3 0)] M (ab_Qv (fun M' => CC g M' (sw_α α) nf nj nm (g_swap κ) ∧ KH M M')) := by
  refine AM.of [some (.ref (α 3 0)), none] (by decide +kernel) (Nat.le_of_ble_eq_true rfl) rfl ?_
  have hA := hC.2.1.1
  refine aw_aload_n dX1_useDraft_0 rfl ?_
  refine aw_get dX1_useDraft_1 fg_X1_15_2 hA rfl ?_
  refine aw_astore_n dX1_useDraft_4 rfl (by decide) ?_
  refine aw_aload_n dX1_useDraft_5 rfl ?_
  refine aw_aload_n dX1_useDraft_6 rfl ?_
  refine aw_get dX1_useDraft_7 fg_X1_18_2 hA rfl ?_
  refine aw_put dX1_useDraft_10 fl_X1_15_2 hA rfl rfl (by simp) ?_
  refine aw_aload_n dX1_useDraft_13 rfl ?_
  refine aw_aload_n dX1_useDraft_14 rfl ?_
  refine aw_put dX1_useDraft_15 fl_X1_18_2 ab_set_self rfl rfl (by simp) ?_
  rw [ab_set_set]
  have h9 := cswap hC (M1 := ab_set M (α 3 0) (3, 0) (.inr (2, [.ref (α 4 0), .ref (α 4 2), .ref (α 4 1), .int (κ.1.1 31), .int (κ.1.1 32)]))) rfl
  have hK1 : KT (fun t => t = (3, 0)) M (ab_set M (α 3 0) (3, 0) (.inr (2, [.ref (α 4 0), .ref (α 4 2), .ref (α 4 1), .int (κ.1.1 31), .int (κ.1.1 32)]))) := KT.put KT.rf hA rfl
  refine AW.tag (sw_ok (hK1 _ _ _ hC.2.1.2.2.1 (fun h => by cases h)) (hK1 _ _ _ hC.2.1.2.2.2 (fun h => by cases h))) ?_
  exact aw_vret dX1_useDraft_18 rfl h9
theorem rf_ans {T : Nat → Int32} {n : Nat} : ∀ (k c p : Nat) (R : Nat → Int32), (q_rf T n k c p R).1 = -1 ∨ ∃ d, d < c + k + 1 ∧ (q_rf T n k c p R).1 = nI (d + 1)
  | 0, c, p, R => Or.inl rfl
  | k + 1, c, p, R => by
    rw [q_rf]
    split
    · split
      · exact Or.inr ⟨c, by omega, rfl⟩
      · split
        · exact Or.inl rfl
        · rcases rf_ans k (c + 1) (sk T n (q_clause T n p R).2.1 + 1) (q_clause T n p R).2.2 with h | ⟨d, h1, h2⟩
          · exact Or.inl h
          · exact Or.inr ⟨d, by omega, h2⟩
    · exact Or.inl rfl
theorem rfs_ans {σ : rS} {n : Nat} : (¬ 0 ≤ (q_rfs σ n).1 ∧ rc (q_rfs σ n).1 = 0) ∨ (0 ≤ (q_rfs σ n).1 ∧ rc (q_rfs σ n).1 = (q_rfs σ n).1 ∧ 0 < (q_rfs σ n).1) := by
  rcases rf_ans (T := σ.2.1 30) (n := n) 5 0 0 (q_R0 σ) with h | ⟨d, h1, h2⟩
  · refine Or.inl ?_
    rw [show (q_rfs σ n).1 = -1 from h]
    decide
  · refine Or.inr ?_
    rw [show (q_rfs σ n).1 = nI (d + 1) from h2]
    have h3 : (0 : Int32) ≤ nI (d + 1) := by rw [show (0 : Int32) = nI 0 from rfl, nI_le_iff (by omega) (by omega)]; omega
    exact ⟨h3, by rw [rc, if_pos h3], by rw [show (0 : Int32) = nI 0 from rfl, nI_ltI (by omega) (by omega)]; omega⟩
def g_fares2 (κ : cS) (r : Int32 × Nat × (Nat → Int32)) : Int32 × cS := if 0 ≤ r.1 then (r.1, cs (g_swap (tκ κ r.2.1 r.2.2)) 31 0) else (-20 - nI r.2.1, cs (tκ κ r.2.1 r.2.2) 31 0)
def g_fares (κ : cS) : Int32 × cS := g_fares2 κ (q_rfs κ.1 (κ.1.1 31).toNatClampNeg)
set_option maxRecDepth 100000 in
set_option maxHeartbeats 4000000 in
theorem c_takeTape {l : Launch} {g : ab_G} {M : ab_M} {α : Nat → Nat → Nat} {nf nj nm : Nat} {κ : cS} {n : Nat} (hC : CC g M α nf nj nm κ) (hT : tT κ.1 n) (hN : ∀ q, q < n → 0 ≤ (κ.1.2.1 30 q).toInt) : AM l g Y_X1_takeTape 4 91 0 0 [.ref (α 3 0)] M (ab_Qi (fun x M' => x = (g_fares κ).1 ∧ (∃ β, β 0 0 = α 0 0 ∧ CC g M' β nf nj nm (g_fares κ).2) ∧ KH M M')) := by
  refine AM.of [some (.ref (α 3 0)), none, none] (by decide +kernel) (Nat.le_of_ble_eq_true rfl) rfl ?_
  have hgf : g_fares κ = g_fares2 κ (q_rfs κ.1 n) := by rw [g_fares, hT.1, nI_cl (by have := hT.2; omega)]
  rw [g_fares2] at hgf
  have hK : KH M M := KT.rf
  refine aw_aload_n dX1_takeTape_0 rfl ?_
  refine aw_V0i (kc' := 0) (ks' := 0) dX1_takeTape_1 cs_X1_42_2 hC.2.1.1 (c_readClauses hC hT hN) rfl (Nat.le_of_ble_eq_true rfl) (fun x1 M1 h1 => ?_)
  obtain ⟨rfl, hC, hK1⟩ := h1
  replace hK := hK.tr hK1
  rcases rfs_ans (σ := κ.1) (n := n) with ⟨h9, h7⟩ | ⟨h9, h7, h8⟩
  · rw [h7]
    refine aw_istore_n dX1_takeTape_4 rfl (by decide) ?_
    refine aw_iload_n dX1_takeTape_5 rfl ?_
    refine aw_if_le (tgt := 13) dX1_takeTape_6 (by decide) (fun h6 => ?_) (fun h6 => absurd (by decide) h6)
    refine aw_bipush (v := -20) dX1_takeTape_13 (by decide) ?_
    refine aw_aload_n dX1_takeTape_15 rfl ?_
    refine aw_get dX1_takeTape_16 fg_X1_25_2 hC.2.1.1 rfl ?_
    refine aw_isub dX1_takeTape_19 ?_
    refine aw_istore_n dX1_takeTape_20 rfl (by decide) ?_
    refine aw_iload_n dX1_takeTape_21 rfl ?_
    refine aw_if_le (tgt := 29) dX1_takeTape_22 (by decide) (fun h22 => ?_) (fun h22 => absurd (by decide) h22)
    refine aw_aload_n dX1_takeTape_29 rfl ?_
    refine aw_iconst (v := 0) dX1_takeTape_30 (by decide) ?_
    refine cw_pA3 dX1_takeTape_31 fl_X1_21_2 hC hK (fun M hC hK => ?_)
    refine aw_iload_n dX1_takeTape_34 rfl ?_
    exact aw_iret dX1_takeTape_35 rfl ⟨by rw [hgf, if_neg h9]; rfl, ⟨α, rfl, by rw [hgf, if_neg h9]; exact hC⟩, hK⟩
  · rw [h7]
    refine aw_istore_n dX1_takeTape_4 rfl (by decide) ?_
    refine aw_iload_n dX1_takeTape_5 rfl ?_
    refine aw_if_le (tgt := 13) dX1_takeTape_6 (by decide) (fun h6 => absurd h8 (Int32.not_lt.mpr h6)) (fun h6 => ?_)
    refine aw_iload_n dX1_takeTape_9 rfl ?_
    refine aw_goto (tgt := 20) dX1_takeTape_10 (by decide) ?_
    refine aw_istore_n dX1_takeTape_20 rfl (by decide) ?_
    refine aw_iload_n dX1_takeTape_21 rfl ?_
    refine aw_if_le (tgt := 29) dX1_takeTape_22 (by decide) (fun h22 => absurd h8 (Int32.not_lt.mpr h22)) (fun h22 => ?_)
    refine aw_aload_n dX1_takeTape_25 rfl ?_
    refine aw_V0v (kc' := 0) (ks' := 0) dX1_takeTape_26 cs_X1_46_2 hC.2.1.1 (c_useDraft hC) rfl (Nat.le_of_ble_eq_true rfl) (fun M26 h26 => ?_)
    obtain ⟨hC, hK26⟩ := h26
    replace hK := hK.tr hK26
    have e3 : α 3 0 = sw_α α 3 0 := rfl
    have e0 : sw_α α 0 0 = α 0 0 := rfl
    generalize sw_α α = β at hC e3 e0
    rw [e3]
    refine aw_aload_n dX1_takeTape_29 rfl ?_
    refine aw_iconst (v := 0) dX1_takeTape_30 (by decide) ?_
    refine cw_pA3 dX1_takeTape_31 fl_X1_21_2 hC hK (fun M hC hK => ?_)
    refine aw_iload_n dX1_takeTape_34 rfl ?_
    exact aw_iret dX1_takeTape_35 rfl ⟨by rw [hgf, if_pos h9], ⟨β, e0, by rw [hgf, if_pos h9]; exact hC⟩, hK⟩
set_option maxRecDepth 100000 in
set_option maxHeartbeats 4000000 in
theorem c_fares {l : Launch} {g : ab_G} {M : ab_M} {α : Nat → Nat → Nat} {nf nj nm : Nat} {κ : cS} {n : Nat} (hC : CC g M α nf nj nm κ) (hT : tT κ.1 n) (hN : ∀ q, q < n → 0 ≤ (κ.1.2.1 30 q).toInt) : AM l g Y_X8_fares 5 113 0 0 [.ref (α 0 0)] M (ab_Qi (fun x M' => x = (g_fares κ).1 ∧ (∃ β, β 0 0 = α 0 0 ∧ CC g M' β nf nj nm (g_fares κ).2) ∧ KH M M')) := by
  refine AM.of [some (.ref (α 0 0))] (by decide +kernel) (Nat.le_of_ble_eq_true rfl) rfl ?_
  have hK : KH M M := KT.rf
  refine aw_aload_n dX8_fares_0 rfl ?_
  refine aw_get dX8_fares_1 fg_X8_25_9 hC.1 rfl ?_
  refine aw_V0i (kc' := 0) (ks' := 0) dX8_fares_4 cs_X8_138_2 hC.2.1.1 (c_takeTape hC hT hN) rfl (Nat.le_of_ble_eq_true rfl) (fun x4 M4 h4 => ?_)
  obtain ⟨rfl, h1, h2⟩ := h4
  exact aw_iret dX8_fares_7 rfl ⟨rfl, h1, h2⟩
