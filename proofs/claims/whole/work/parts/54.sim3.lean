/-! ===== the minute's steps keep the two states together ===== -/
theorem ra_cm {σ : rS} {a b : Nat} {f h : Nat → Int32} (hab : a ≠ b) : ra (ra σ a f) b h = ra (ra σ b h) a f := by
  unfold ra
  simp only [Prod.mk.injEq, true_and, and_true]
  funext j
  by_cases h1 : j = a
  · subst h1
    simp [hab]
  · simp [h1]
theorem max_off {x : Int32} : q_max 0 x = if x ≤ 0 then 0 else x := by
  unfold q_max
  by_cases h : x ≤ 0
  · rw [if_pos h, if_neg (Int32.not_lt.mpr h)]
  · rw [if_neg h, if_pos (Int32.not_le.mp h)]
theorem least_cm {a b : Int32} : q_least a b = q_least b a := by
  unfold q_least
  by_cases h : a < b
  · rw [if_pos h, if_neg (fun q => by rw [Int32.lt_iff_toInt_lt] at *; omega)]
  · rw [if_neg h]
    by_cases h2 : b < a
    · rw [if_pos h2]
    · rw [if_neg h2]
      rw [Int32.lt_iff_toInt_lt] at h h2
      exact Int32.toInt_inj.mp (by omega)
theorem least_int {a b : Int32} : (q_least a b).toInt = min a.toInt b.toInt := by
  unfold q_least
  split
  · next h => rw [Int32.lt_iff_toInt_lt] at h; omega
  · next h => rw [Int32.lt_iff_toInt_lt] at h; omega
theorem more_rng : ∀ f, f < 21 → ∀ p, p < 101 → nI f * nI p / 100 = nI (f * p / 100) := by decide +kernel
theorem Cx_flow {nf nj nm e0 : Nat} {B : Int} {σ : rS} {κ : cS} (h : Cx nf nj nm e0 B σ κ) {i : Nat} (hi : i < nf) : Cx nf nj nm e0 B (k_flow i σ) (g_flow κ i) := by
  have hN9 : rN nf nj nm (k_flow i σ) := rK_kflow.N h.2.1
  have hI9 : cI nf nj nm (g_flow κ i) := cI_flow h.2.2.1
  obtain ⟨hE, hN, hI, hA, hB, hC, hD, hEe, hF, hG, hH, hIi, hJ, hK, hL⟩ := h
  have hb := hI.1
  have cm := nI_cl (n := i) (by omega)
  by_cases h3 : σ.2.1 3 i = 0
  · have e1 : k_flow i σ = σ := by rw [k_flow, rg, cm, if_pos h3]
    have e2 : g_flow κ i = κ := by rw [g_flow, hE.1 3 rfl, if_pos h3]
    rw [e1, e2]
    exact ⟨hE, hN, hI, hA, hB, hC, hD, hEe, hF, hG, hH, hIi, hJ, hK, hL⟩
  · obtain ⟨fl, hf1, hf2, efl⟩ := nat_of (a := 1) (b := 20) (hA i hi).1.1 (hA i hi).1.2 (by omega)
    obtain ⟨pt, -, hp2, ept⟩ := nat_of (a := 0) (b := 100) hB.1 hB.2 (by omega)
    have hmore : σ.2.1 1 i * σ.1 27 / 100 = nI (fl * pt / 100) := by rw [efl, ept]; exact more_rng fl (by omega) pt (by omega)
    have hm20 : fl * pt / 100 ≤ 20 := by
      have : fl * pt ≤ 20 * 100 := Nat.mul_le_mul hf2 hp2
      omega
    have e1 : k_flow i σ = rj (rj (ra (ra σ 2 (upd (σ.2.1 2) i (σ.2.1 2 i + (σ.2.1 1 i * σ.1 27 / 100 - q_off σ (nI i))))) 4 (upd (σ.2.1 4) i (σ.2.1 4 i + q_off σ (nI i)))) (vp_updL σ.2.2 0 (σ.2.2 0 + (σ.2.1 1 i * σ.1 27 / 100).toInt64))) (vp_updL (vp_updL σ.2.2 0 (σ.2.2 0 + (σ.2.1 1 i * σ.1 27 / 100).toInt64)) 1 (σ.2.2 1 + (q_off σ (nI i)).toInt64)) := by
      rw [k_flow, rg, cm, if_neg h3]
      unfold f_flow rl rp q_more rg
      rw [cm]
      rfl
    have hoff : q_off σ (nI i) = q_ovC κ i := by
      unfold q_off q_more q_ovC rg
      rw [cm, max_off, hE.1 1 rfl, hE.1 2 rfl, hE.2.1 27 rfl]
    have e2 : g_flow κ i = cl (cl (cp (cp κ 2 i (σ.2.1 2 i + (σ.2.1 1 i * σ.1 27 / 100 - q_off σ (nI i)))) 4 i (σ.2.1 4 i + q_off σ (nI i))) 0 (σ.2.2 0 + (σ.2.1 1 i * σ.1 27 / 100).toInt64)) 1 (σ.2.2 1 + (q_off σ (nI i)).toInt64) := by
      rw [g_flow, hE.1 3 rfl, if_neg h3, ← hoff, hE.1 1 rfl, hE.1 2 rfl, hE.1 4 rfl, hE.2.1 27 rfl, hE.2.2]
    rw [e1] at hN9 ⊢
    rw [e2] at hI9 ⊢
    refine ⟨(((hE.cp 2 i _ rfl).cp 4 i _ rfl).su 0 _).su 1 _, hN9, hI9, ?_, hB, hC, hD, hEe, hF, hG, hH, hIi, hJ, hK, ?_⟩
    · intro x hx
      refine ⟨(hA x hx).1, ?_⟩
      show 0 ≤ (upd (σ.2.1 2) i (σ.2.1 2 i + (σ.2.1 1 i * σ.1 27 / 100 - q_off σ (nI i))) x).toInt ∧ (upd (σ.2.1 2) i (σ.2.1 2 i + (σ.2.1 1 i * σ.1 27 / 100 - q_off σ (nI i))) x).toInt ≤ 300
      by_cases e : x = i
      · subst e
        rw [upd_at]
        obtain ⟨dp, -, hd2, edp⟩ := nat_of (a := 0) (b := 300) (hA x hx).2.1 (hA x hx).2.2 (by omega)
        have hoi : q_off σ (nI x) = nI (dp + fl * pt / 100 - 300) := by
          unfold q_off q_more rg
          rw [cm, hmore, edp, nI_add]
          have t3 : (nI (dp + fl * pt / 100) - 300).toInt = (dp + fl * pt / 100 : Nat) - 300 := by
            rw [fb_subI (by rw [nI_toInt (by omega), show (300 : Int32).toInt = 300 by decide]; omega) (by rw [nI_toInt (by omega), show (300 : Int32).toInt = 300 by decide]; omega), nI_toInt (by omega), show (300 : Int32).toInt = 300 by decide]
          split
          · next hq =>
            rw [Int32.le_iff_toInt_le, t3, t_0] at hq
            rw [show dp + fl * pt / 100 - 300 = 0 by omega]
            rfl
          · next hq =>
            rw [Int32.le_iff_toInt_le, t3, t_0] at hq
            apply Int32.toInt_inj.mp
            rw [t3, nI_toInt (by omega)]
            omega
        rw [hoi, hmore, edp]
        have t4 : (nI (fl * pt / 100) - nI (dp + fl * pt / 100 - 300)).toInt = (fl * pt / 100 : Nat) - (dp + fl * pt / 100 - 300 : Nat) := by
          rw [fb_subI (by rw [nI_toInt (by omega), nI_toInt (by omega)]; omega) (by rw [nI_toInt (by omega), nI_toInt (by omega)]; omega), nI_toInt (by omega), nI_toInt (by omega)]
        rw [fb_addI (by rw [t4, nI_toInt (by omega)]; omega) (by rw [t4, nI_toInt (by omega)]; omega), t4, nI_toInt (by omega)]
        omega
      · rw [upd_ne e]
        exact (hA x hx).2
    · refine ⟨hL.1, fun x hx hx2 => ?_, hL.2.2⟩
      have e : x ≠ i := by omega
      show upd (σ.2.1 2) i _ x = 0 ∧ upd (σ.2.1 4) i _ x = 0
      rw [upd_ne e, upd_ne e]
      exact hL.2.1 x hx hx2
theorem Cx_drink {nf nj nm e0 : Nat} {B : Int} {σ : rS} {κ : cS} (h : Cx nf nj nm e0 B σ κ) {j : Nat} (hj : j < nj) : Cx nf nj nm e0 B (k_drink j σ) (g_drink κ j) := by
  have hN9 : rN nf nj nm (k_drink j σ) := rK_drink.N h.2.1
  have hI9 : cI nf nj nm (g_drink κ j) := cI_drink h.2.2.1
  obtain ⟨hE, hN, hI, hA, hB, hC, hD, hEe, hF, hG, hH, hIi, hJ, hK, hL⟩ := h
  have hb := hI.1
  have cm := nI_cl (n := j) (by omega)
  have hv : q_dvC κ j = q_dv σ (nI j) := by
    unfold q_dvC q_dv rg
    rw [cm, q_min_least, hE.1 10 rfl, hE.1 9 rfl]
  have e1 : k_drink j σ = rj (ra (ra σ 9 (upd (σ.2.1 9) j (σ.2.1 9 j - q_dv σ (nI j)))) 11 (upd (σ.2.1 11) j (σ.2.1 11 j + q_dv σ (nI j)))) (vp_updL σ.2.2 4 (σ.2.2 4 + (q_dv σ (nI j)).toInt64)) := by
    unfold k_drink rl rp rg
    rw [cm]
    rfl
  have e2 : g_drink κ j = cl (cp (cp κ 9 j (σ.2.1 9 j - q_dv σ (nI j))) 11 j (σ.2.1 11 j + q_dv σ (nI j))) 4 (σ.2.2 4 + (q_dv σ (nI j)).toInt64) := by
    unfold g_drink
    rw [hv, hE.1 9 rfl, hE.1 11 rfl, hE.2.2]
  rw [e1] at hN9 ⊢
  rw [e2] at hI9 ⊢
  refine ⟨((hE.cp 9 j _ rfl).cp 11 j _ rfl).su 4 _, hN9, hI9, hA, hB, hC, hD, hEe, hF, hG, hH, hIi, hJ, hK, hL.1, hL.2.1, fun x hx hx2 => ?_⟩
  have e : x ≠ j := by omega
  show upd (σ.2.1 9) j _ x = 0 ∧ _ ∧ upd (σ.2.1 11) j _ x = 0
  rw [upd_ne e, upd_ne e]
  exact hL.2.2 x hx hx2
theorem Cx.we {nf nj nm e0 : Nat} {B : Int} {σ : rS} {κ : cS} (h : Cx nf nj nm 100 B σ κ) : Cx nf nj nm e0 B σ κ := by
  obtain ⟨hE, hN, hI, hA, hB, hC, hD, hEe, hF, hG, hH, hIi, hJ, hK, hL⟩ := h
  have hb := hI.1
  exact ⟨hE, hN, hI, hA, hB, hC, hD, hEe, fun m hm _ hd => hF m hm (by omega) hd, hG, hH, hIi, hJ, hK, hL⟩
theorem Cx_down {nf nj nm m : Nat} {B : Int} {σ : rS} {κ : cS} (h : Cx nf nj nm m B σ κ) (hm : m < nm) (hd : ¬ σ.2.1 19 m = 0) : Cx nf nj nm 100 B (f_down σ (nI m)) (g_down κ m) := by
  have hN9 : rN nf nj nm (f_down σ (nI m)) := rK_down.N h.2.1
  obtain ⟨k, fi, ji, hk, hf, hj, e13, e15, e16⟩ := h.kd hm
  obtain ⟨w1, w2, w3, w4⟩ := way_eq h hm hj
  obtain ⟨hE, hN, hI, hA, hB, hC, hD, hEe, hF, hG, hH, hIi, hJ, hK, hL⟩ := h
  have hb := hI.1
  have cm := nI_cl (n := m) (by omega)
  have hI9 : cI nf nj nm (g_down κ m) := cI_down hI (does_no hI (by rw [hE.1 19 rfl]; exact hd))
  have e1 : f_down σ (nI m) = ra (ra σ 19 (upd (σ.2.1 19) m 2)) 20 (upd (σ.2.1 20) m (q_dnC κ m ji)) := by
    unfold f_down rp
    rw [show rg σ 16 (nI m) = nI ji by rw [rg, cm, e16], show q_way (ra σ 19 (upd (σ.2.1 19) (nI m).toNatClampNeg 2)) (nI m) (nI ji) 0 = q_way σ (nI m) (nI ji) 0 from rfl, w2, cm]
    rfl
  have e2 : g_down κ m = cp (cp κ 19 m 2) 20 m (q_dnC κ m ji) := by
    unfold g_down
    rw [hE.1 16 rfl, e16, nI_cl (by omega)]
  rw [e1] at hN9 ⊢
  rw [e2] at hI9 ⊢
  refine ⟨((hE.cp 19 m 2 rfl).l 20 _ rfl).r 20 _ rfl, hN9, hI9, hA, hB, hC, hD, hEe, ?_, hG, ?_, hIi, hJ, hK, ?_⟩
  · intro x hx _ hd9
    show upd (κ.1.2.1 20) m _ x = upd (σ.2.1 20) m _ x ∧ 1 ≤ (upd (σ.2.1 20) m _ x).toInt
    by_cases e : x = m
    · rw [e, upd_at, upd_at]
      exact ⟨rfl, w4.1⟩
    · rw [upd_ne e, upd_ne e]
      have hd8 : ¬ upd (σ.2.1 19) m 2 x = 0 := hd9
      rw [upd_ne e] at hd8
      exact hF x hx e hd8
  · refine ⟨hH.1, fun x hx hd9 => ?_, hH.2.2⟩
    have hd8 : upd (σ.2.1 19) m 2 x = 0 := hd9
    by_cases e : x = m
    · rw [e, upd_at] at hd8
      exact absurd hd8 (by decide)
    · rw [upd_ne e] at hd8
      exact hH.2.1 x hx hd8
  · refine ⟨fun x hx hx2 => ?_, hL.2⟩
    have e : x ≠ m := by omega
    have h9 := hL.1 x hx hx2
    refine ⟨h9.1, ?_, h9.2.2⟩
    show upd (σ.2.1 19) m 2 x = 0
    rw [upd_ne e]
    exact h9.2.1
theorem Cx_join {nf nj nm m : Nat} {B : Int} {σ : rS} {κ : cS} (h : Cx nf nj nm m B σ κ) (hm : m < nm) (hd : ¬ σ.2.1 19 m = 0) (hB9 : B ≤ 1000000) : Cx nf nj nm 100 (B + 1) (f_join σ (nI m)) (g_join κ m) := by
  have hN9 : rN nf nj nm (f_join σ (nI m)) := rK_join.N h.2.1
  obtain ⟨k, fi, ji, hk, hf, hj, e13, e15, e16⟩ := h.kd hm
  obtain ⟨hE, hN, hI, hA, hB, hC, hD, hEe, hF, hG, hH, hIi, hJ, hK, hL⟩ := h
  have hb := hI.1
  have cm := nI_cl (n := m) (by omega)
  have hno := does_no hI (m := m) (by rw [hE.1 19 rfl]; exact hd)
  have hI9 : cI nf nj nm (g_join κ m) := cI_join hI hm hno
  have e1 : f_join σ (nI m) = rs (ra (ra (ra σ 19 (upd (σ.2.1 19) m 0)) 20 (upd (σ.2.1 20) m 0)) 23 (upd (σ.2.1 23) m (σ.1 26))) 26 (σ.1 26 + 1) := by
    unfold f_join rp
    rw [cm]
    rfl
  have e2 : g_join κ m = cw (cp κ 19 m 0) fi (κ.2.1 fi ++ [m]) := by
    unfold g_join
    rw [hE.1 15 rfl, e15, nI_cl (by omega)]
  rw [e1] at hN9 ⊢
  rw [e2] at hI9 ⊢
  have t26 : (σ.1 26 + 1).toInt = (σ.1 26).toInt + 1 := by
    have := hH.2.2.2
    rw [fb_addI (by rw [t_1]; omega) (by rw [t_1]; omega), t_1]
  have hE1 : E (rs (ra (ra (ra σ 19 (upd (σ.2.1 19) m 0)) 20 (upd (σ.2.1 20) m 0)) 23 (upd (σ.2.1 23) m (σ.1 26))) 26 (σ.1 26 + 1)) (cp κ 19 m 0) := (((hE.cp 19 m 0 rfl).l 20 _ rfl).l 23 _ rfl).scl 26 _ rfl
  refine ⟨hE1, hN9, hI9, hA, hB, hC, hD, hEe, ?_, hG, ?_, hIi, hJ, hK, ?_⟩
  · intro x hx _ hd9
    have hd8 : ¬ upd (σ.2.1 19) m 0 x = 0 := hd9
    by_cases e : x = m
    · rw [e, upd_at] at hd8
      exact absurd rfl hd8
    · rw [upd_ne e] at hd8
      show κ.1.2.1 20 x = upd (σ.2.1 20) m 0 x ∧ 1 ≤ (upd (σ.2.1 20) m 0 x).toInt
      rw [upd_ne e]
      exact hF x hx e hd8
  · have hold : ∀ i, i < nf → (κ.2.1 i).Pairwise (fun a b => (upd (σ.2.1 23) m (σ.1 26) a).toInt < (upd (σ.2.1 23) m (σ.1 26) b).toInt) := by
      intro i hi
      refine (hH.1 i hi).imp_of_mem (fun {a b} ha hb2 hab => ?_)
      rw [upd_ne (fun e => hno i hi (by rw [← e]; exact ha)), upd_ne (fun e => hno i hi (by rw [← e]; exact hb2))]
      exact hab
    refine ⟨fun i hi => ?_, fun x hx hd9 i hi h15 => ?_, fun x hx => ?_, ?_, ?_⟩
    · show (if i = fi then κ.2.1 fi ++ [m] else κ.2.1 i).Pairwise (fun a b => (upd (σ.2.1 23) m (σ.1 26) a).toInt < (upd (σ.2.1 23) m (σ.1 26) b).toInt)
      split
      · rw [List.pairwise_append]
        refine ⟨hold fi hf, List.pairwise_singleton _ _, fun a ha b hb2 => ?_⟩
        rw [List.mem_singleton] at hb2
        subst hb2
        rw [upd_at, upd_ne (fun e => hno fi hf (by rw [← e]; exact ha))]
        exact hH.2.2.1 a ((hI.V fi hf).2 a ha).1
      · exact hold i hi
    · have hd8 : upd (σ.2.1 19) m 0 x = 0 := hd9
      show x ∈ (if i = fi then κ.2.1 fi ++ [m] else κ.2.1 i)
      by_cases e : x = m
      · subst e
        have : i = fi := by
          have h8 : nI fi = nI i := e15.symm.trans h15
          exact ((nI_eq_iff (by omega) (by omega)).mp h8).symm
        rw [if_pos this]
        exact List.mem_append.mpr (Or.inr (List.mem_singleton.mpr rfl))
      · rw [upd_ne e] at hd8
        have h9 := hH.2.1 x hx hd8 i hi h15
        split
        · next e2 => rw [e2] at h9; exact List.mem_append.mpr (Or.inl h9)
        · exact h9
    · show (upd (σ.2.1 23) m (σ.1 26) x).toInt < (σ.1 26 + 1).toInt
      rw [t26]
      by_cases e : x = m
      · rw [e, upd_at]; omega
      · rw [upd_ne e]
        have := hH.2.2.1 x hx
        omega
    · show 0 ≤ (σ.1 26 + 1).toInt
      have := hH.2.2.2
      omega
    · show (σ.1 26 + 1).toInt ≤ B + 1
      have := hH.2.2.2
      omega
  · refine ⟨fun x hx hx2 => ?_, hL.2⟩
    have e : x ≠ m := by omega
    have h9 := hL.1 x hx hx2
    refine ⟨h9.1, ?_, h9.2.2⟩
    show upd (σ.2.1 19) m 0 x = 0
    rw [upd_ne e]
    exact h9.2.1
