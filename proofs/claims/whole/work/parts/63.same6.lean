/-! ===== the same answers, 6 ===== -/
theorem s_moves {c : Int} {nf nj nm : Nat} {σ : rS} {κ : cS} (h : S c nf nj nm σ κ) (hc : c ≤ 1000) {m f j : Nat} (hm : m < nm) (hf : f < nf) (hj : j < nj) (h1 : q_isM κ.1 (nI m) = true) (h2 : q_isF κ.1 (nI f) = true) (h3 : q_isJ κ.1 (nI j) = true) : (g_moves κ m f j).1 = (f_moves σ (nI m) (nI f) (nI j)).1 ∧ S (c + 1) nf nj nm (f_moves σ (nI m) (nI f) (nI j)).2 (g_moves κ m f j).2 := by
  have hb := h.1.2.2.1.1
  rw [h.1.1.isM] at h1
  rw [h.1.1.isF] at h2
  rw [h.1.1.isJ] at h3
  obtain ⟨kd, fi, ji, hkd, hfi, hji, e13, e15, e16⟩ := h.1.kd hm
  have hcnd : (q_isM σ (nI m) && (q_isF σ (nI f) && q_isJ σ (nI j))) = true := by rw [h1, h2, h3]; rfl
  have cm := nI_cl (n := m) (by omega)
  have cf := nI_cl (n := f) (by omega)
  have cfi := nI_cl (n := fi) (by omega)
  unfold g_moves f_moves
  rw [if_pos hcnd, show rg σ 13 (nI m) = nI kd by unfold rg; rw [cm, e13], show rg σ 19 (nI m) = σ.2.1 19 m by unfold rg; rw [cm], h.1.1.1 19 rfl, h.1.1.1 13 rfl, e13, nI_cl (n := kd) (by omega), can_eq h.1 hkd hj]
  by_cases hd0 : σ.2.1 19 m = 0
  · rw [if_pos hd0, if_pos hd0]
    by_cases hcan : q_canGo σ (nI kd) (nI j) = true
    · rw [if_pos hcan, if_pos hcan]
      refine ⟨rfl, ?_⟩
      have hmem := h.1.mem (i := fi) hfi m
      have h9 := h.up
      obtain ⟨⟨hE, hN, hI, hA, hB, hC, hD, hEe, hF, hG, hH, hIi, hJ, hK, hL⟩, hO⟩ := h
      have t26 : (σ.1 26 + 1).toInt = (σ.1 26).toInt + 1 := by
        have := hH.2.2.2
        have := hC
        unfold tC at this
        rw [fb_addI (by rw [t_1]; omega) (by rw [t_1]; omega), t_1]
      have e1 : f_join (rp (rp σ 15 (nI m) (nI f)) 16 (nI m) (nI j)) (nI m) = rs (ra (ra (ra (ra (ra σ 15 (upd (σ.2.1 15) m (nI f))) 16 (upd (σ.2.1 16) m (nI j))) 19 (upd (σ.2.1 19) m 0)) 20 (upd (σ.2.1 20) m 0)) 23 (upd (σ.2.1 23) m (σ.1 26))) 26 (σ.1 26 + 1) := by
        unfold f_join rp
        rw [cm]
        rfl
      obtain ⟨Lk, hLk⟩ : ∃ Lk : Nat → List Nat, Lk = fun i => if i = fi then (κ.2.1 fi).erase m else κ.2.1 i := ⟨_, rfl⟩
      have e2 : cgr (g_join (cp (cp (g_leave κ m) 15 m (nI f)) 16 m (nI j)) m) f = ((ra (ra (ra κ.1 15 (upd (κ.1.2.1 15) m (nI f))) 16 (upd (κ.1.2.1 16) m (nI j))) 19 (upd (κ.1.2.1 19) m 0)), (fun i => if i = f then Lk f ++ [m] else Lk i), fun r => if r = 100 then upd (κ.2.2 100) f 1 else κ.2.2 r) := by
        have hx : (cp (cp (g_leave κ m) 15 m (nI f)) 16 m (nI j)).1.2.1 15 m = nI f := by
          show upd _ m (nI f) m = _
          rw [upd_at]
        unfold g_join
        rw [hx, cf]
        unfold g_leave
        rw [hE.1 15 rfl, e15, cfi, hLk]
        rw [← hE.1 15 rfl]
        rfl
      have hLm : ∀ i, i < nf → ∀ x, x ∈ Lk i ↔ x ∈ κ.2.1 i ∧ x ≠ m := by
        intro i hi x
        rw [hLk]
        dsimp only
        by_cases e : i = fi
        · rw [if_pos e, (hI.V fi hfi).1.mem_erase_iff, e]
          exact And.comm
        · rw [if_neg e]
          constructor
          · intro q
            refine ⟨q, fun e9 => ?_⟩
            have h8 := ((hI.V i hi).2 x q).2.2
            rw [e9, hE.1 15 rfl, e15] at h8
            exact e ((nI_eq_iff (by omega) (by omega)).mp h8).symm
          · intro q
            exact q.1
      have hLs : ∀ i, i < nf → List.Sublist (Lk i) (κ.2.1 i) := by
        intro i hi
        rw [hLk]
        dsimp only
        by_cases e : i = fi
        · rw [if_pos e, e]
          exact List.erase_sublist
        · rw [if_neg e]
          exact List.Sublist.refl _
      clear hLk
      rw [e1, e2]
      refine ⟨⟨⟨fun q hq => ?_, fun q hq => ?_, hE.2.2⟩, ⟨⟨hN.1.1, hN.1.2.1, hN.1.2.2.1, hN.1.2.2.2.1, hN.1.2.2.2.2.1, fun x hx => ?_, fun x hx => ?_, hN.1.2.2.2.2.2.2.2⟩, hN.2⟩, ⟨hI.1, hI.2.1, fun x hx => ?_, fun x hx => ?_, hI.2.2.2.2.1, hI.2.2.2.2.2.1, hI.2.2.2.2.2.2.1, hI.2.2.2.2.2.2.2.1, fun x hx i hin hi => ?_, fun i hi => ?_⟩, hA, hB, hC, fun q hq => ⟨fun i hi => ?_, (hD q hq).2⟩, hEe, fun x hx hx2 hd => ?_, hG, ⟨fun i hi => ?_, fun x hx hd i hi h15 => ?_, fun x hx => ?_, ?_, ?_⟩, hIi, hJ, hK, fun x hx hx2 => ?_, hL.2⟩, hO⟩
      · show (if q = 19 then upd (κ.1.2.1 19) m 0 else if q = 16 then upd (κ.1.2.1 16) m (nI j) else if q = 15 then upd (κ.1.2.1 15) m (nI f) else κ.1.2.1 q) = (if q = 23 then upd (σ.2.1 23) m (σ.1 26) else if q = 20 then upd (σ.2.1 20) m 0 else if q = 19 then upd (σ.2.1 19) m 0 else if q = 16 then upd (σ.2.1 16) m (nI j) else if q = 15 then upd (σ.2.1 15) m (nI f) else σ.2.1 q)
        have n20 : q ≠ 20 := fun e => by rw [e] at hq; cases hq
        have n23 : q ≠ 23 := fun e => by rw [e] at hq; cases hq
        rw [if_neg n20, if_neg n23, hE.1 19 rfl, hE.1 16 rfl, hE.1 15 rfl, hE.1 q hq]
      · show κ.1.1 q = upd σ.1 26 (σ.1 26 + 1) q
        have n26 : q ≠ 26 := fun e => by rw [e] at hq; cases hq
        rw [upd_ne n26]
        exact hE.2.1 q hq
      · show 0 ≤ (upd (σ.2.1 15) m (nI f) x).toInt ∧ (upd (σ.2.1 15) m (nI f) x).toInt < 4
        by_cases e : x = m
        · rw [e, upd_at, nI_toInt (by omega)]; omega
        · rw [upd_ne e]; exact hN.1.2.2.2.2.2.1 x hx
      · show 0 ≤ (upd (σ.2.1 16) m (nI j) x).toInt ∧ (upd (σ.2.1 16) m (nI j) x).toInt < 8
        by_cases e : x = m
        · rw [e, upd_at, nI_toInt (by omega)]; omega
        · rw [upd_ne e]; exact hN.1.2.2.2.2.2.2.1 x hx
      · show ∃ i, i < nf ∧ upd (κ.1.2.1 15) m (nI f) x = nI i
        by_cases e : x = m
        · exact ⟨f, hf, by rw [e, upd_at]⟩
        · obtain ⟨i, a1, a2⟩ := hI.2.2.1 x hx
          exact ⟨i, a1, by rw [upd_ne e]; exact a2⟩
      · show ∃ i, i < nj ∧ upd (κ.1.2.1 16) m (nI j) x = nI i
        by_cases e : x = m
        · exact ⟨j, hj, by rw [e, upd_at]⟩
        · obtain ⟨i, a1, a2⟩ := hI.2.2.2.1 x hx
          exact ⟨i, a1, by rw [upd_ne e]; exact a2⟩
      · have hi9 : upd (κ.1.2.1 15) m (nI f) x = nI i := hi
        show upd (κ.2.2 100) f 1 i = 1
        by_cases ei : i = f
        · rw [ei, upd_at]
        · rw [upd_ne ei]
          by_cases e : x = m
          · rw [e, upd_at] at hi9
            exact absurd ((nI_eq_iff (by omega) (by omega)).mp hi9).symm ei
          · rw [upd_ne e] at hi9
            exact hI.2.2.2.2.2.2.2.2.1 x hx i hin hi9
      · show (if i = f then Lk f ++ [m] else Lk i).Nodup ∧ ∀ x ∈ (if i = f then Lk f ++ [m] else Lk i), x < nm ∧ upd (κ.1.2.1 19) m 0 x = 0 ∧ upd (κ.1.2.1 15) m (nI f) x = nI i
        by_cases ei : i = f
        · rw [if_pos ei]
          refine ⟨List.nodup_append.mpr ⟨(hI.V f hf).1.sublist (hLs f hf), by simp, fun a ha b hb2 => ?_⟩, fun x hx => ?_⟩
          · simp at hb2
            subst hb2
            exact ((hLm f hf a).mp ha).2
          · rcases List.mem_append.mp hx with hx | hx
            · obtain ⟨q1, q2⟩ := (hLm f hf x).mp hx
              obtain ⟨a1, a2, a3⟩ := (hI.V f hf).2 x q1
              rw [upd_ne q2, upd_ne q2, ei]
              exact ⟨a1, a2, a3⟩
            · simp at hx
              rw [hx, upd_at, upd_at, ei]
              exact ⟨hm, rfl, rfl⟩
        · rw [if_neg ei]
          refine ⟨(hI.V i hi).1.sublist (hLs i hi), fun x hx => ?_⟩
          obtain ⟨q1, q2⟩ := (hLm i hi x).mp hx
          obtain ⟨a1, a2, a3⟩ := (hI.V i hi).2 x q1
          rw [upd_ne q2, upd_ne q2]
          exact ⟨a1, a2, a3⟩
      · show (if q = 100 then upd (κ.2.2 100) f 1 else κ.2.2 q) i = σ.2.1 8 (4 * q + i)
        rw [if_neg (by omega)]
        exact (hD q hq).1 i hi
      · have hd9 : ¬ upd (σ.2.1 19) m 0 x = 0 := hd
        by_cases e : x = m
        · rw [e, upd_at] at hd9; exact absurd rfl hd9
        · rw [upd_ne e] at hd9
          show κ.1.2.1 20 x = upd (σ.2.1 20) m 0 x ∧ 1 ≤ (upd (σ.2.1 20) m 0 x).toInt
          rw [upd_ne e]
          exact hF x hx hx2 hd9
      · show (if i = f then Lk f ++ [m] else Lk i).Pairwise (fun a b => (upd (σ.2.1 23) m (σ.1 26) a).toInt < (upd (σ.2.1 23) m (σ.1 26) b).toInt)
        have hold : ∀ i, i < nf → (Lk i).Pairwise (fun a b => (upd (σ.2.1 23) m (σ.1 26) a).toInt < (upd (σ.2.1 23) m (σ.1 26) b).toInt) := by
          intro i hi
          refine ((hH.1 i hi).sublist (hLs i hi)).imp_of_mem (fun {a b} ha hb2 hab => ?_)
          rw [upd_ne ((hLm i hi a).mp ha).2, upd_ne ((hLm i hi b).mp hb2).2]
          exact hab
        split
        · rw [List.pairwise_append]
          refine ⟨hold f hf, List.pairwise_singleton _ _, fun a ha b hb2 => ?_⟩
          rw [List.mem_singleton] at hb2
          subst hb2
          obtain ⟨q1, q2⟩ := (hLm f hf a).mp ha
          rw [upd_at, upd_ne q2]
          exact hH.2.2.1 a ((hI.V f hf).2 a q1).1
        · exact hold i hi
      · have hd9 : upd (σ.2.1 19) m 0 x = 0 := hd
        have h159 : upd (σ.2.1 15) m (nI f) x = nI i := h15
        show x ∈ (if i = f then Lk f ++ [m] else Lk i)
        by_cases e : x = m
        · rw [e, upd_at] at h159
          have : i = f := ((nI_eq_iff (by omega) (by omega)).mp h159).symm
          rw [if_pos this, e]
          exact List.mem_append.mpr (Or.inr (List.mem_singleton.mpr rfl))
        · rw [upd_ne e] at hd9 h159
          have h8 := (hLm i hi x).mpr ⟨hH.2.1 x hx hd9 i hi h159, e⟩
          split
          · next e2 => rw [e2] at h8; exact List.mem_append.mpr (Or.inl h8)
          · exact h8
      · show (upd (σ.2.1 23) m (σ.1 26) x).toInt < (σ.1 26 + 1).toInt
        rw [t26]
        by_cases e : x = m
        · rw [e, upd_at]; omega
        · rw [upd_ne e]
          have := hH.2.2.1 x hx
          omega
      · show 0 ≤ (σ.1 26 + 1).toInt
        have := hH.2.2.2
        omega
      · show (σ.1 26 + 1).toInt ≤ 10 * (σ.1 28).toInt + (c + 1)
        have := hH.2.2.2
        omega
      · have h8 := hL.1 x hx hx2
        refine ⟨h8.1, ?_, h8.2.2⟩
        show upd (σ.2.1 19) m 0 x = 0
        rw [upd_ne (by omega)]
        exact h8.2.1
    · rw [if_neg hcan, if_neg hcan]
      exact ⟨rfl, h.up⟩
  · rw [if_neg hd0, if_neg hd0]
    exact ⟨rfl, h.up⟩
theorem init40 {x : Nat} (hx : x < 10) : s_1.2.1 33 x = 1 ∧ s_1.2.1 40 x = -4 := by
  have : ∀ x, x < 10 → s_1.2.1 33 x = 1 ∧ s_1.2.1 40 x = -4 := by decide +kernel
  exact this x hx
theorem s1_rows : ∀ (n i : Nat) (σ : rS), (∀ k, k ≠ 33 → k ≠ 40 → (lp k_init i n σ).2.1 k = σ.2.1 k) ∧ (lp k_init i n σ).1 = σ.1 ∧ (lp k_init i n σ).2.2 = σ.2.2
  | 0, i, σ => ⟨fun _ _ _ => rfl, rfl, rfl⟩
  | n + 1, i, σ => by
    obtain ⟨h1, h2, h3⟩ := s1_rows n (i + 1) (k_init i σ)
    rw [lp]
    refine ⟨fun k k1 k2 => ?_, h2, h3⟩
    rw [h1 k k1 k2]
    show (if k = 40 then _ else if k = 33 then _ else σ.2.1 k) = σ.2.1 k
    rw [if_neg k2, if_neg k1]
theorem s_start : S 0 0 0 0 s_1 κ0 := by
  have hs : (∀ k, k ≠ 33 → k ≠ 40 → s_1.2.1 k = fun _ => 0) ∧ s_1.1 = upd (fun _ => 0) 27 100 ∧ s_1.2.2 = fun _ => 0 := s1_rows 10 0 s_0
  have hi := fun x hx => init40 (x := x) hx
  generalize s_1 = τ at *
  obtain ⟨r, sc, su⟩ := hs
  have kr : ∀ k, k ≠ 33 → k ≠ 40 → κ0.1.2.1 k = fun _ => 0 := by
    intro k k1 k2
    show (if k = 33 then _ else if k = 40 then _ else fun _ => (0 : Int32)) = _
    rw [if_neg k1, if_neg k2]
  have z : ∀ k, k ≠ 27 → τ.1 k = 0 := fun k hk => by rw [sc, upd_ne hk]
  have e27 : τ.1 27 = 100 := by rw [sc, upd_at]
  have kz : ∀ k, k ≠ 27 → κ0.1.1 k = 0 := fun k hk => by show upd (fun _ => (0 : Int32)) 27 100 k = 0; rw [upd_ne hk]
  have nz : ∀ k, k ≠ 33 → k ≠ 40 → ∀ x, τ.2.1 k x = 0 := fun k k1 k2 x => by rw [r k k1 k2]
  refine ⟨⟨⟨fun k hk => ?_, fun k hk => ?_, by rw [su]; rfl⟩, ⟨⟨?_, ?_, ?_, ?_, ?_, ?_, ?_, ?_, ?_⟩, z 0 (by decide), z 5 (by decide), z 12 (by decide), by omega, by omega, by omega⟩, ⟨by omega, ⟨kz 0 (by decide), kz 5 (by decide), kz 12 (by decide)⟩, fun m hm => absurd hm (by omega), fun m hm => absurd hm (by omega), fun m hm => absurd hm (by omega), ⟨0, by omega, kz 31 (by decide)⟩, ⟨0, by omega, kz 35 (by decide)⟩, ⟨0, by omega, kz 42 (by decide)⟩, fun m hm => absurd hm (by omega), fun i hi => absurd hi (by omega)⟩, fun i hi => absurd hi (by omega), ?_, ?_, fun j hj => absurd hj (by omega), fun m hm => absurd hm (by omega), fun m hm => absurd hm (by omega), fun m hm => absurd hm (by omega), ⟨fun i hi => absurd hi (by omega), fun m hm => absurd hm (by omega), fun m hm => absurd hm (by omega), ?_, ?_⟩, ⟨0, 0, by omega, by omega, z 35 (by decide), kz 42 (by decide), fun i hi => absurd hi (by omega)⟩, fun k hk => ?_, fun p hp => ?_, fun m _ _ => ?_, fun i _ _ => ?_, fun j _ _ => ?_⟩, fun m hm => absurd hm (by omega)⟩
  · have k1 : k ≠ 33 := fun e => by rw [e] at hk; cases hk
    have k2 : k ≠ 40 := fun e => by rw [e] at hk; cases hk
    rw [kr k k1 k2, r k k1 k2]
  · rw [sc]
    rfl
  · rw [z 0 (by decide), t_0]; omega
  · rw [z 5 (by decide), t_0]; omega
  · rw [z 12 (by decide), t_0]; omega
  · rw [z 31 (by decide), t_0]; omega
  · rw [z 35 (by decide), t_0]; omega
  · intro m _; rw [nz 15 (by decide) (by decide), t_0]; omega
  · intro m _; rw [nz 16 (by decide) (by decide), t_0]; omega
  · intro m hm
    rw [z 12 (by decide), t_0] at hm
    omega
  · intro m _; rw [nz 6 (by decide) (by decide), t_0]; omega
  · unfold tB; rw [e27]; decide
  · unfold tC; rw [z 28 (by decide), t_0]; omega
  · rw [z 26 (by decide), t_0]; omega
  · rw [z 26 (by decide), z 28 (by decide), t_0]; omega
  · rw [(hi k hk).1, (hi k hk).2]
    have : ∀ k, k < 10 → κ0.1.2.1 33 k = 1 ∧ κ0.1.2.1 40 k = -4 := by decide +kernel
    exact this k hk
  · rw [z 31 (by decide)] at hp
    exact absurd hp (by simp)
  · exact ⟨nz 17 (by decide) (by decide) m, nz 19 (by decide) (by decide) m, nz 21 (by decide) (by decide) m, nz 22 (by decide) (by decide) m⟩
  · exact ⟨nz 2 (by decide) (by decide) i, nz 4 (by decide) (by decide) i⟩
  · exact ⟨nz 9 (by decide) (by decide) j, nz 10 (by decide) (by decide) j, nz 11 (by decide) (by decide) j⟩
