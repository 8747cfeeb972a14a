/-! ===== the same answers, 5 ===== -/
theorem man_bad {c : Int} {nf nj nm : Nat} {σ : rS} {κ : cS} (h : S c nf nj nm σ κ) {k w f j : Int32} (hq : (q_in k 0 2 && q_in w 1 40) = false ∨ q_isF κ.1 f = false ∨ q_isJ κ.1 j = false) : f_man σ k w f j = (-1, σ) := by
  unfold f_man
  rw [if_neg]
  intro q
  rw [Bool.and_eq_true, Bool.and_eq_true, Bool.and_eq_true] at q
  rw [h.1.1.isF, h.1.1.isJ, q.1, q.2.1, q.2.2.1, q.2.2.2] at hq
  rcases hq with hq | hq | hq <;> cases hq
theorem moves_bad {c : Int} {nf nj nm : Nat} {σ : rS} {κ : cS} (h : S c nf nj nm σ κ) {m f j : Int32} (hq : q_isM κ.1 m = false ∨ q_isF κ.1 f = false ∨ q_isJ κ.1 j = false) : f_moves σ m f j = (-1, σ) := by
  unfold f_moves
  rw [if_neg]
  intro q
  rw [Bool.and_eq_true, Bool.and_eq_true] at q
  rw [h.1.1.isM, h.1.1.isF, h.1.1.isJ, q.1, q.2.1, q.2.2] at hq
  rcases hq with hq | hq | hq <;> cases hq
theorem s_man {c : Int} {nf nj nm : Nat} {σ : rS} {κ : cS} (h : S c nf nj nm σ κ) (hc : c ≤ 1000) {k f j : Nat} {w : Int32} (hk : k < 3) (hf : f < nf) (hj : j < nj) (h1 : (q_in (nI k) 0 2 && q_in w 1 40) = true) (h2 : q_isF κ.1 (nI f) = true) (h3 : q_isJ κ.1 (nI j) = true) : (g_man nm κ k f j w).1 = (f_man σ (nI k) w (nI f) (nI j)).1 ∧ S (c + 1) nf nj (g_man nm κ k f j w).2.1 (f_man σ (nI k) w (nI f) (nI j)).2 (g_man nm κ k f j w).2.2 := by
  have hb := h.1.2.2.1.1
  rw [Bool.and_eq_true] at h1
  rw [h.1.1.isF] at h2
  rw [h.1.1.isJ] at h3
  have hcnd : (q_in (nI k) 0 2 && (q_in w 1 40 && (q_isF σ (nI f) && q_isJ σ (nI j)))) = true := by rw [h1.1, h1.2, h2, h3]; rfl
  unfold g_man f_man
  rw [if_pos hcnd, can_eq h.1 hk hj, h.1.2.1.2.2.2.1]
  by_cases hcan : q_canGo σ (nI k) (nI j) = true
  · rw [if_pos hcan, if_pos hcan]
    by_cases hn : nm < 10
    · rw [if_pos hn, if_neg (show ¬ nI nm = 10 from fun q => by have := (nI_eq_iff (a := nm) (b := 10) (by omega) (by omega)).mp q; omega)]
      refine ⟨succ1.symm, ?_⟩
      have hw := q_in_iff.mp h1.2
      rw [t_1, show (40 : Int32).toInt = 40 by decide] at hw
      have h9 := h.up
      obtain ⟨⟨hE, hN, hI, hA, hB, hC, hD, hEe, hF, hG, hH, hIi, hJ, hK, hL⟩, hO⟩ := h
      have cn := nI_cl (n := nm) (by omega)
      have cf := nI_cl (n := f) (by omega)
      have hz := hL.1 nm (Nat.le_refl _) hn
      have t26 : (σ.1 26 + 1).toInt = (σ.1 26).toInt + 1 := by
        have := hH.2.2.2
        have := hC
        unfold tC at this
        rw [fb_addI (by rw [t_1]; omega) (by rw [t_1]; omega), t_1]
      have e1 : rs (f_join (rp (rp (rp (rp (rp σ 13 (nI nm) (nI k)) 14 (nI nm) w) 15 (nI nm) (nI f)) 16 (nI nm) (nI j)) 18 (nI nm) 2) (nI nm)) 12 (nI nm + 1) = rs (rs (ra (ra (ra (ra (ra (ra (ra (ra σ 13 (upd (σ.2.1 13) nm (nI k))) 14 (upd (σ.2.1 14) nm w)) 15 (upd (σ.2.1 15) nm (nI f))) 16 (upd (σ.2.1 16) nm (nI j))) 18 (upd (σ.2.1 18) nm 2)) 19 (upd (σ.2.1 19) nm 0)) 20 (upd (σ.2.1 20) nm 0)) 23 (upd (σ.2.1 23) nm (σ.1 26))) 26 (σ.1 26 + 1)) 12 (nI (nm + 1)) := by
        unfold f_join rp
        rw [cn, show nI nm + 1 = nI (nm + 1) from nI_1 nm]
        rfl
      have hf15 : (g_man1 κ nm (nI k) w (nI f) (nI j)).1.2.1 15 nm = nI f := by
        show upd _ nm (nI f) nm = _
        rw [upd_at]
      have e2 : cs (cgr (g_join (g_man1 κ nm (nI k) w (nI f) (nI j)) nm) f) 12 (nI (nm + 1)) = ((rs (g_join (g_man1 κ nm (nI k) w (nI f) (nI j)) nm).1 12 (nI (nm + 1))), (fun i => if i = f then κ.2.1 f ++ [nm] else κ.2.1 i), fun r => if r = 100 then upd (κ.2.2 100) f 1 else κ.2.2 r) := by
        unfold g_join
        rw [hf15, cf]
        rfl
      rw [e1, e2]
      have hno : ∀ i, i < nf → nm ∉ κ.2.1 i := fun i hi q => by have := ((hI.V i hi).2 nm q).1; omega
      have hidz : ∀ {g : Nat → Int32}, g nm = 0 → upd g nm 0 = g := by
        intro g hg
        conv => lhs; rw [← hg]
        exact upd_id
      refine ⟨⟨⟨fun q hq => ?_, fun q hq => ?_, hE.2.2⟩, ⟨⟨hN.1.1, hN.1.2.1, ?_, hN.1.2.2.2.1, hN.1.2.2.2.2.1, fun x hx => ?_, fun x hx => ?_, fun x hx => ?_, hN.1.2.2.2.2.2.2.2.2⟩, hN.2.1, hN.2.2.1, rfl, hN.2.2.2.2.1, hN.2.2.2.2.2.1, by show nm + 1 ≤ 10; omega⟩, ⟨by show nf ≤ 4 ∧ nj ≤ 8 ∧ nm + 1 ≤ 10; omega, ⟨hI.2.1.1, hI.2.1.2.1, rfl⟩, fun x hx => ?_, fun x hx => ?_, fun x hx => ?_, hI.2.2.2.2.2.1, hI.2.2.2.2.2.2.1, hI.2.2.2.2.2.2.2.1, fun x hx i hin hi => ?_, fun i hi => ?_⟩, hA, hB, hC, fun q hq => ⟨fun i hi => ?_, (hD q hq).2⟩, fun x hx => ?_, fun x hx hx2 hd => ?_, fun x hx h0 => ?_, ⟨fun i hi => ?_, fun x hx hd i hi h15 => ?_, fun x hx => ?_, ?_, ?_⟩, hIi, hJ, hK, fun x hx hx2 => ?_, hL.2⟩, fun x hx => ?_⟩
      · -- rows
        show (if q = 19 then upd (upd (κ.1.2.1 19) nm 0) nm 0 else if q = 25 then upd (κ.1.2.1 25) nm (-1) else if q = 24 then upd (κ.1.2.1 24) nm (-1) else if q = 41 then upd (κ.1.2.1 41) nm (-1) else if q = 22 then upd (κ.1.2.1 22) nm 0 else if q = 21 then upd (κ.1.2.1 21) nm 0 else if q = 20 then upd (κ.1.2.1 20) nm 0 else if q = 19 then upd (κ.1.2.1 19) nm 0 else if q = 18 then upd (κ.1.2.1 18) nm 2 else if q = 17 then upd (κ.1.2.1 17) nm 0 else if q = 16 then upd (κ.1.2.1 16) nm (nI j) else if q = 15 then upd (κ.1.2.1 15) nm (nI f) else if q = 14 then upd (κ.1.2.1 14) nm w else if q = 13 then upd (κ.1.2.1 13) nm (nI k) else κ.1.2.1 q) = (if q = 23 then upd (σ.2.1 23) nm (σ.1 26) else if q = 20 then upd (σ.2.1 20) nm 0 else if q = 19 then upd (σ.2.1 19) nm 0 else if q = 18 then upd (σ.2.1 18) nm 2 else if q = 16 then upd (σ.2.1 16) nm (nI j) else if q = 15 then upd (σ.2.1 15) nm (nI f) else if q = 14 then upd (σ.2.1 14) nm w else if q = 13 then upd (σ.2.1 13) nm (nI k) else σ.2.1 q)
        have n25 : q ≠ 25 := fun e => by rw [e] at hq; cases hq
        have n24 : q ≠ 24 := fun e => by rw [e] at hq; cases hq
        have n41 : q ≠ 41 := fun e => by rw [e] at hq; cases hq
        have n20 : q ≠ 20 := fun e => by rw [e] at hq; cases hq
        have n23 : q ≠ 23 := fun e => by rw [e] at hq; cases hq
        rw [if_neg n25, if_neg n24, if_neg n41, if_neg n20, if_neg n20, if_neg n23, upd_upd]
        by_cases n19 : q = 19
        · rw [if_pos n19, if_pos n19, hE.1 19 rfl]
        · rw [if_neg n19, if_neg n19, if_neg n19]
          by_cases n22 : q = 22
          · subst n22
            rw [if_pos rfl, if_neg (by decide), if_neg (by decide), if_neg (by decide), if_neg (by decide), if_neg (by decide), hE.1 22 rfl]
            exact hidz hz.2.2.2
          · by_cases n21 : q = 21
            · subst n21
              rw [if_neg (by decide), if_pos rfl, if_neg (by decide), if_neg (by decide), if_neg (by decide), if_neg (by decide), if_neg (by decide), hE.1 21 rfl]
              exact hidz hz.2.2.1
            · by_cases n17 : q = 17
              · subst n17
                rw [if_neg (by decide), if_neg (by decide), if_neg (by decide), if_pos rfl, if_neg (by decide), if_neg (by decide), if_neg (by decide), if_neg (by decide), if_neg (by decide), hE.1 17 rfl]
                exact hidz hz.1
              · rw [if_neg n22, if_neg n21, if_neg n17, hE.1 18 rfl, hE.1 16 rfl, hE.1 15 rfl, hE.1 14 rfl, hE.1 13 rfl, hE.1 q hq]
      · show upd κ.1.1 12 (nI (nm + 1)) q = upd (upd σ.1 26 (σ.1 26 + 1)) 12 (nI (nm + 1)) q
        have n26 : q ≠ 26 := fun e => by rw [e] at hq; cases hq
        by_cases n12 : q = 12
        · rw [n12, upd_at, upd_at]
        · rw [upd_ne n12, upd_ne n12, upd_ne n26]
          exact hE.2.1 q hq
      · show 0 ≤ (nI (nm + 1)).toInt ∧ (nI (nm + 1)).toInt ≤ 10
        rw [nI_toInt (by omega)]
        omega
      · show 0 ≤ (upd (σ.2.1 15) nm (nI f) x).toInt ∧ (upd (σ.2.1 15) nm (nI f) x).toInt < 4
        by_cases e : x = nm
        · rw [e, upd_at, nI_toInt (by omega)]; omega
        · rw [upd_ne e]; exact hN.1.2.2.2.2.2.1 x hx
      · show 0 ≤ (upd (σ.2.1 16) nm (nI j) x).toInt ∧ (upd (σ.2.1 16) nm (nI j) x).toInt < 8
        by_cases e : x = nm
        · rw [e, upd_at, nI_toInt (by omega)]; omega
        · rw [upd_ne e]; exact hN.1.2.2.2.2.2.2.1 x hx
      · show 1 ≤ (upd (σ.2.1 18) nm 2 x).toInt ∧ (upd (σ.2.1 18) nm 2 x).toInt ≤ 5
        by_cases e : x = nm
        · rw [e, upd_at]; decide
        · rw [upd_ne e]
          refine hN.1.2.2.2.2.2.2.2.1 x ?_
          have hx9 : (x : Int) < (nI (nm + 1)).toInt := hx
          rw [nI_toInt (by omega)] at hx9
          rw [hN.2.2.2.1, nI_toInt (by omega)]
          omega
      · have hx9 : x < nm + 1 := hx
        show ∃ i, i < nf ∧ upd (κ.1.2.1 15) nm (nI f) x = nI i
        by_cases e : x = nm
        · exact ⟨f, hf, by rw [e, upd_at]⟩
        · obtain ⟨i, a1, a2⟩ := hI.2.2.1 x (by omega)
          exact ⟨i, a1, by rw [upd_ne e]; exact a2⟩
      · have hx9 : x < nm + 1 := hx
        show ∃ i, i < nj ∧ upd (κ.1.2.1 16) nm (nI j) x = nI i
        by_cases e : x = nm
        · exact ⟨j, hj, by rw [e, upd_at]⟩
        · obtain ⟨i, a1, a2⟩ := hI.2.2.2.1 x (by omega)
          exact ⟨i, a1, by rw [upd_ne e]; exact a2⟩
      · have hx9 : x < nm + 1 := hx
        show ∃ i, i < 3 ∧ upd (κ.1.2.1 13) nm (nI k) x = nI i
        by_cases e : x = nm
        · exact ⟨k, hk, by rw [e, upd_at]⟩
        · obtain ⟨i, a1, a2⟩ := hI.2.2.2.2.1 x (by omega)
          exact ⟨i, a1, by rw [upd_ne e]; exact a2⟩
      · have hx9 : x < nm + 1 := hx
        have hi9 : upd (κ.1.2.1 15) nm (nI f) x = nI i := hi
        show upd (κ.2.2 100) f 1 i = 1
        by_cases ei : i = f
        · rw [ei, upd_at]
        · rw [upd_ne ei]
          by_cases e : x = nm
          · rw [e, upd_at] at hi9
            exact absurd ((nI_eq_iff (by omega) (by omega)).mp hi9).symm ei
          · rw [upd_ne e] at hi9
            exact hI.2.2.2.2.2.2.2.2.1 x (by omega) i hin hi9
      · show (if i = f then κ.2.1 f ++ [nm] else κ.2.1 i).Nodup ∧ ∀ m ∈ (if i = f then κ.2.1 f ++ [nm] else κ.2.1 i), m < nm + 1 ∧ upd (upd (κ.1.2.1 19) nm 0) nm 0 m = 0 ∧ upd (κ.1.2.1 15) nm (nI f) m = nI i
        rw [upd_upd]
        by_cases ei : i = f
        · rw [if_pos ei]
          refine ⟨List.nodup_append.mpr ⟨(hI.V f hf).1, by simp, fun a ha b hb2 => ?_⟩, fun m hm => ?_⟩
          · simp at hb2
            subst hb2
            intro e3
            subst e3
            exact hno _ hf ha
          · rcases List.mem_append.mp hm with hm | hm
            · obtain ⟨a1, a2, a3⟩ := (hI.V f hf).2 m hm
              have e : m ≠ nm := by omega
              rw [upd_ne e, upd_ne e, ei]
              exact ⟨by omega, a2, a3⟩
            · simp at hm
              rw [hm, upd_at, upd_at, ei]
              exact ⟨by omega, rfl, rfl⟩
        · rw [if_neg ei]
          refine ⟨(hI.V i hi).1, fun m hm => ?_⟩
          obtain ⟨a1, a2, a3⟩ := (hI.V i hi).2 m hm
          have e : m ≠ nm := by omega
          rw [upd_ne e, upd_ne e]
          exact ⟨by omega, a2, a3⟩
      · show (if q = 100 then upd (κ.2.2 100) f 1 else κ.2.2 q) i = σ.2.1 8 (4 * q + i)
        rw [if_neg (by omega)]
        exact (hD q hq).1 i hi
      · have hx9 : x < nm + 1 := hx
        show (1 ≤ (upd (σ.2.1 14) nm w x).toInt ∧ (upd (σ.2.1 14) nm w x).toInt ≤ 40) ∧ (0 ≤ (σ.2.1 21 x).toInt ∧ (σ.2.1 21 x).toInt ≤ (upd (σ.2.1 14) nm w x).toInt)
        by_cases e : x = nm
        · rw [e, upd_at, hz.2.2.1, t_0]; omega
        · rw [upd_ne e]; exact hEe x (by omega)
      · have hx9 : x < nm + 1 := hx
        have hd9 : ¬ upd (σ.2.1 19) nm 0 x = 0 := hd
        by_cases e : x = nm
        · rw [e, upd_at] at hd9; exact absurd rfl hd9
        · rw [upd_ne e] at hd9
          show upd (κ.1.2.1 20) nm 0 x = upd (σ.2.1 20) nm 0 x ∧ 1 ≤ (upd (σ.2.1 20) nm 0 x).toInt
          rw [upd_ne e, upd_ne e]
          exact hF x (by omega) hx2 hd9
      · have hx9 : x < nm + 1 := hx
        have h09 : 0 < (σ.2.1 21 x).toInt := h0
        by_cases e : x = nm
        · rw [e, hz.2.2.1, t_0] at h09; omega
        · show upd (κ.1.2.1 24) nm (-1) x = σ.2.1 24 x ∧ upd (κ.1.2.1 25) nm (-1) x = σ.2.1 25 x
          rw [upd_ne e, upd_ne e]
          exact hG x (by omega) h09
      · show (if i = f then κ.2.1 f ++ [nm] else κ.2.1 i).Pairwise (fun a b => (upd (σ.2.1 23) nm (σ.1 26) a).toInt < (upd (σ.2.1 23) nm (σ.1 26) b).toInt)
        have hold : ∀ i, i < nf → (κ.2.1 i).Pairwise (fun a b => (upd (σ.2.1 23) nm (σ.1 26) a).toInt < (upd (σ.2.1 23) nm (σ.1 26) b).toInt) := by
          intro i hi
          refine (hH.1 i hi).imp_of_mem (fun {a b} ha hb2 hab => ?_)
          rw [upd_ne (fun e => hno i hi (by rw [← e]; exact ha)), upd_ne (fun e => hno i hi (by rw [← e]; exact hb2))]
          exact hab
        split
        · rw [List.pairwise_append]
          refine ⟨hold f hf, List.pairwise_singleton _ _, fun a ha b hb2 => ?_⟩
          rw [List.mem_singleton] at hb2
          subst hb2
          rw [upd_at, upd_ne (fun e => hno f hf (by rw [← e]; exact ha))]
          exact hH.2.2.1 a ((hI.V f hf).2 a ha).1
        · exact hold i hi
      · have hx9 : x < nm + 1 := hx
        have hd9 : upd (σ.2.1 19) nm 0 x = 0 := hd
        have h159 : upd (σ.2.1 15) nm (nI f) x = nI i := h15
        show x ∈ (if i = f then κ.2.1 f ++ [nm] else κ.2.1 i)
        by_cases e : x = nm
        · rw [e, upd_at] at h159
          have : i = f := ((nI_eq_iff (by omega) (by omega)).mp h159).symm
          rw [if_pos this, e]
          exact List.mem_append.mpr (Or.inr (List.mem_singleton.mpr rfl))
        · rw [upd_ne e] at hd9 h159
          have h8 := hH.2.1 x (by omega) hd9 i hi h159
          split
          · next e2 => rw [e2] at h8; exact List.mem_append.mpr (Or.inl h8)
          · exact h8
      · have hx9 : x < nm + 1 := hx
        show (upd (σ.2.1 23) nm (σ.1 26) x).toInt < (σ.1 26 + 1).toInt
        rw [t26]
        by_cases e : x = nm
        · rw [e, upd_at]; omega
        · rw [upd_ne e]
          have := hH.2.2.1 x (by omega)
          omega
      · show 0 ≤ (σ.1 26 + 1).toInt
        have := hH.2.2.2
        omega
      · show (σ.1 26 + 1).toInt ≤ 10 * (σ.1 28).toInt + (c + 1)
        have := hH.2.2.2
        omega
      · have hx9 : nm + 1 ≤ x := hx
        have h8 := hL.1 x (by omega) hx2
        refine ⟨h8.1, ?_, h8.2.2⟩
        show upd (σ.2.1 19) nm 0 x = 0
        rw [upd_ne (by omega)]
        exact h8.2.1
      · have hx9 : x < nm + 1 := hx
        show (upd (κ.1.2.1 41) nm (-1) x).toInt < (σ.1 28).toInt
        by_cases e : x = nm
        · rw [e, upd_at, m1]
          have := hC
          unfold tC at this
          omega
        · rw [upd_ne e]
          exact hO x (by omega)
    · rw [if_neg hn, if_pos (show nI nm = 10 by rw [show nm = 10 by omega]; rfl)]
      exact ⟨rfl, h.up⟩
  · rw [if_neg hcan, if_neg hcan]
    exact ⟨rfl, h.up⟩
