/-! ===== minutes: the states stay together ===== -/
theorem Cx.wB {nf nj nm e0 : Nat} {B : Int} {σ : rS} {κ : cS} (h : Cx nf nj nm e0 B σ κ) {B2 : Int} (hB : B ≤ B2) : Cx nf nj nm e0 B2 σ κ := by
  obtain ⟨hE, hN, hI, hA, hB1, hC, hD, hEe, hF, hG, hH, hIi, hJ, hK, hL⟩ := h
  exact ⟨hE, hN, hI, hA, hB1, hC, hD, hEe, hF, hG, ⟨hH.1, hH.2.1, hH.2.2.1, hH.2.2.2.1, by have := hH.2.2.2.2; omega⟩, hIi, hJ, hK, hL⟩
/-- within a minute: who walks -/
def Md (nm i0 : Nat) (σ : rS) (κ : cS) : Prop := (∀ m, m < nm → (κ.1.2.1 41 m).toInt ≤ (σ.1 28).toInt) ∧ ∀ m, i0 ≤ m → m < nm → (¬ σ.2.1 37 m = 0 ↔ ¬ σ.2.1 19 m = 0 ∧ ¬ κ.1.2.1 41 m = σ.1 28)
theorem f_fill_eq {nf nj nm e0 : Nat} {B : Int} {σ : rS} {κ : cS} (h : Cx nf nj nm e0 B σ κ) {i : Nat} (hi : i < nf) : (f_fill σ (nI i) = σ ∧ q_nx κ (κ.2.1 i) none = none) ∨ ∃ b, b < nm ∧ wt σ i b ∧ q_nx κ (κ.2.1 i) none = some b ∧ f_fill σ (nI i) = f_fill2 (f_fill1 σ (nI i) (nI b)) (nI b) := by
  have hb := h.2.2.1.1
  rcases next_eq h hi with ⟨h1, h2⟩ | ⟨b, hb1, hw, h1, h2⟩
  · exact Or.inl ⟨by rw [f_fill, h2, if_neg (by decide)], h1⟩
  · exact Or.inr ⟨b, hb1, hw, h1, by rw [f_fill, h2, if_pos (by rw [show (0 : Int32) = nI 0 from rfl, nI_le_iff (by omega) (by omega)]; omega)]⟩
theorem Cx_fill {nf nj nm e0 : Nat} {B : Int} {σ : rS} {κ : cS} (h : Cx nf nj nm e0 B σ κ) {i : Nat} (hi : i < nf) (hM : Md nm 0 σ κ) : Cx nf nj nm e0 B (k_fill i σ) (g_fill κ i) ∧ Md nm 0 (k_fill i σ) (g_fill κ i) := by
  have hb := h.2.2.1.1
  have ci := nI_cl (n := i) (by omega)
  unfold k_fill g_fill
  rw [show rg σ 3 (nI i) = σ.2.1 3 i by rw [rg, ci], h.1.1 3 rfl]
  by_cases h3 : σ.2.1 3 i = 0
  · rw [if_pos h3, if_pos h3]
    exact ⟨h, hM⟩
  · rw [if_neg h3, if_neg h3]
    rcases f_fill_eq h hi with ⟨e1, e2⟩ | ⟨b, hb1, hw, e2, e1⟩
    · rw [e1, e2]
      exact ⟨h, hM⟩
    · rw [e1, e2]
      dsimp only
      have hA := Cx_fillA h hi hb1
      refine ⟨Cx_fillB hA hb1, ?_⟩
      have cb := nI_cl (n := b) (by omega)
      have s1 : (f_fill1 σ (nI i) (nI b)).1 28 = σ.1 28 ∧ (f_fill1 σ (nI i) (nI b)).2.1 37 = σ.2.1 37 ∧ (f_fill1 σ (nI i) (nI b)).2.1 19 = σ.2.1 19 := by
        unfold f_fill1
        split
        · exact ⟨rfl, rfl, rfl⟩
        · exact ⟨rfl, rfl, rfl⟩
      have k1 : (g_fill2 (g_fill1 κ i b (q_fvC κ i b)) i b (q_fvC κ i b)).1.2.1 41 = κ.1.2.1 41 ∧ (g_fill2 (g_fill1 κ i b (q_fvC κ i b)) i b (q_fvC κ i b)).1.1 28 = κ.1.1 28 := by
        unfold g_fill2
        split
        · exact ⟨rfl, rfl⟩
        · exact ⟨rfl, rfl⟩
      have hc := hA.1.1 21 rfl
      have hl := hA.1.1 14 rfl
      have hEe := hA.2.2.2.2.2.2.2.1 b hb1
      generalize f_fill1 σ (nI i) (nI b) = σ1 at *
      generalize g_fill2 (g_fill1 κ i b (q_fvC κ i b)) i b (q_fvC κ i b) = κ1 at *
      have h37b : σ.2.1 37 b = 0 := by
        by_cases q : σ.2.1 37 b = 0
        · exact q
        · exact absurd hw.1 ((hM.2 b (by omega) hb1).mp q).1
      unfold f_fill2 g_fill3
      rw [hc, hl]
      by_cases hq : σ1.2.1 21 b = σ1.2.1 14 b
      · rw [if_pos (show rg σ1 21 (nI b) = rg σ1 14 (nI b) by unfold rg; rw [cb]; exact hq), if_neg (fun q => by rw [hq, Int32.lt_iff_toInt_lt] at q; omega)]
        refine ⟨fun x hx => ?_, fun x _ hx => ?_⟩
        · show (upd (κ1.1.2.1 41) b (κ1.1.1 28) x).toInt ≤ (σ1.1 28).toInt
          rw [s1.1]
          by_cases e : x = b
          · rw [e, upd_at, k1.2, h.1.2.1 28 rfl]
            exact Int.le_refl _
          · rw [upd_ne e, k1.1]
            exact hM.1 x hx
        · show ¬ σ1.2.1 37 x = 0 ↔ ¬ upd (σ1.2.1 19) (nI b).toNatClampNeg 1 x = 0 ∧ ¬ upd (κ1.1.2.1 41) b (κ1.1.1 28) x = σ1.1 28
          rw [s1.1, s1.2.1, s1.2.2, cb]
          by_cases e : x = b
          · rw [e, upd_at, upd_at, k1.2, h.1.2.1 28 rfl]
            constructor
            · intro q; exact absurd h37b q
            · intro q; exact absurd rfl q.2
          · rw [upd_ne e, upd_ne e, k1.1]
            exact hM.2 x (by omega) hx
      · have hne := ne_toInt hq
        rw [if_neg (show ¬ rg σ1 21 (nI b) = rg σ1 14 (nI b) by unfold rg; rw [cb]; exact hq), if_pos (by rw [Int32.lt_iff_toInt_lt]; omega)]
        refine ⟨fun x hx => ?_, fun x _ hx => ?_⟩
        · rw [s1.1, k1.1]
          exact hM.1 x hx
        · rw [s1.1, s1.2.1, s1.2.2, k1.1]
          exact hM.2 x (by omega) hx
theorem pr_same {σ : rS} {m : Int32} : (f_pr σ m).1 28 = σ.1 28 ∧ (f_pr σ m).2.1 37 = σ.2.1 37 ∧ (f_pr σ m).2.1 19 = σ.2.1 19 := by
  unfold f_pr
  split
  · exact ⟨rfl, rfl, rfl⟩
  · rw [keep_sc 28 (by decide), keep_ar 37 (by decide), keep_ar 19 (by decide)]
    exact ⟨rfl, rfl, rfl⟩
theorem gpour_same {κ : cS} {m : Nat} : (g_pour κ m).1.2.1 41 = κ.1.2.1 41 := by
  unfold g_pour
  split
  · rfl
  · rfl
theorem Cx_walk {nf nj nm : Nat} {B : Int} {σ : rS} {κ : cS} (h : Cx nf nj nm 100 B σ κ) {m : Nat} (hm : m < nm) (hB9 : B ≤ 1000000) (hM : Md nm m σ κ) : Cx nf nj nm 100 (B + 1) (k_walk m σ) (g_walk κ m) ∧ Md nm (m + 1) (k_walk m σ) (g_walk κ m) := by
  have hb := h.2.2.1.1
  have cm := nI_cl (n := m) (by omega)
  have hw := hM.2 m (Nat.le_refl _) hm
  have e19 := h.1.1 19 rfl
  have e28 := h.1.2.1 28 rfl
  unfold k_walk g_walk
  rw [show rg σ 37 (nI m) = σ.2.1 37 m by rw [rg, cm], e19, e28]
  by_cases h37 : σ.2.1 37 m = 0
  · rw [if_pos h37, if_pos]
    · exact ⟨h.wB (by omega), hM.1, fun x hx hx2 => hM.2 x (by omega) hx2⟩
    · by_cases q : σ.2.1 19 m = 0
      · exact Or.inl q
      · refine Or.inr ?_
        by_cases q2 : κ.1.2.1 41 m = σ.1 28
        · exact q2
        · exact absurd h37 (hw.mpr ⟨q, q2⟩)
  · obtain ⟨q1, q2⟩ := hw.mp h37
    rw [if_neg h37, if_neg (fun q => q.elim q1 q2)]
    have hh := h
    obtain ⟨hE, hN, hI, hA, hB1, hC, hD, hEe, hF, hG, hH, hIi, hJ, hK, hL⟩ := h
    obtain ⟨f1, f2⟩ := hF m hm (by omega) q1
    have t20 : (σ.2.1 20 m - 1).toInt = (σ.2.1 20 m).toInt - 1 := t_sub1 (by omega)
    -- one minute less to go
    have h1 : Cx nf nj nm m B (ra σ 20 (upd (σ.2.1 20) m (σ.2.1 20 m - 1))) (cp κ 20 m (σ.2.1 20 m - 1)) := by
      refine ⟨(hE.l 20 _ rfl).r 20 _ rfl, hN, hI, hA, hB1, hC, hD, hEe, fun x hx hxe hd => ?_, hG, hH, hIi, hJ, hK, hL⟩
      show upd (κ.1.2.1 20) m _ x = upd (σ.2.1 20) m _ x ∧ 1 ≤ (upd (σ.2.1 20) m _ x).toInt
      rw [upd_ne hxe, upd_ne hxe]
      exact hF x hx (by omega) hd
    have e1 : rp σ 20 (nI m) (rg σ 20 (nI m) - 1) = ra σ 20 (upd (σ.2.1 20) m (σ.2.1 20 m - 1)) := by
      unfold rp rg
      rw [cm]
    rw [e1, f1]
    have v20 : rg (ra σ 20 (upd (σ.2.1 20) m (σ.2.1 20 m - 1))) 20 (nI m) = σ.2.1 20 m - 1 := by
      show upd (σ.2.1 20) m (σ.2.1 20 m - 1) (nI m).toNatClampNeg = _
      rw [cm, upd_at]
    have w20 : (cp κ 20 m (σ.2.1 20 m - 1)).1.2.1 20 m = σ.2.1 20 m - 1 := by
      show upd (κ.1.2.1 20) m (σ.2.1 20 m - 1) m = _
      rw [upd_at]
    have hM1 : Md nm m (ra σ 20 (upd (σ.2.1 20) m (σ.2.1 20 m - 1))) (cp κ 20 m (σ.2.1 20 m - 1)) := hM
    have q1a : ¬ (ra σ 20 (upd (σ.2.1 20) m (σ.2.1 20 m - 1))).2.1 19 m = 0 := q1
    unfold k_walk1 g_walk1
    rw [v20, w20]
    by_cases hz : σ.2.1 20 m - 1 = 0
    · rw [if_pos hz, if_pos (show σ.2.1 20 m - 1 ≤ 0 by rw [hz]; decide)]
      rw [show (cp κ 20 m (σ.2.1 20 m - 1)).1.2.1 19 m = rg (ra σ 20 (upd (σ.2.1 20) m (σ.2.1 20 m - 1))) 19 (nI m) by unfold rg; rw [cm]; exact congrFun e19 m]
      generalize ra σ 20 (upd (σ.2.1 20) m (σ.2.1 20 m - 1)) = σ1 at *
      generalize cp κ 20 m (σ.2.1 20 m - 1) = κ1 at *
      by_cases q19 : rg σ1 19 (nI m) = 1
      · rw [if_pos q19, if_pos q19, f_pour_pr]
        have h2 := Cx_pour h1 hm
        obtain ⟨p1, p2, p3⟩ := pr_same (σ := σ1) (m := nI m)
        have p4 := gpour_same (κ := κ1) (m := m)
        refine ⟨(Cx_down h2 hm (by rw [p3]; exact q1a)).wB (by omega), ?_⟩
        refine ⟨fun x hx => ?_, fun x hx hx2 => ?_⟩
        · show ((g_pour κ1 m).1.2.1 41 x).toInt ≤ ((f_pr σ1 (nI m)).1 28).toInt
          rw [p4, p1]
          exact hM1.1 x hx
        · show ¬ (f_pr σ1 (nI m)).2.1 37 x = 0 ↔ ¬ upd ((f_pr σ1 (nI m)).2.1 19) (nI m).toNatClampNeg 2 x = 0 ∧ ¬ (g_pour κ1 m).1.2.1 41 x = (f_pr σ1 (nI m)).1 28
          rw [p1, p2, p3, p4, cm, upd_ne (by omega)]
          exact hM1.2 x (by omega) hx2
      · rw [if_neg q19, if_neg q19]
        refine ⟨Cx_join h1 hm q1a hB9, ?_⟩
        refine ⟨fun x hx => hM1.1 x hx, fun x hx hx2 => ?_⟩
        show ¬ σ1.2.1 37 x = 0 ↔ ¬ upd (σ1.2.1 19) (nI m).toNatClampNeg 0 x = 0 ∧ ¬ κ1.1.2.1 41 x = σ1.1 28
        rw [cm, upd_ne (by omega)]
        exact hM1.2 x (by omega) hx2
    · have hz1 := ne_toInt hz
      rw [t20, t_0] at hz1
      rw [if_neg hz, if_neg (by rw [Int32.le_iff_toInt_le, t20, t_0]; omega)]
      refine ⟨?_, hM1.1, fun x hx hx2 => hM1.2 x (by omega) hx2⟩
      obtain ⟨a1, a2, a3, a4, a5, a6, a7, a8, a9, a10, a11, a12, a13, a14, a15⟩ := h1
      refine Cx.wB (B := B) ⟨a1, a2, a3, a4, a5, a6, a7, a8, fun x hx _ hd => ?_, a10, a11, a12, a13, a14, a15⟩ (by omega)
      by_cases e : x = m
      · subst e
        show upd (κ.1.2.1 20) x _ x = upd (σ.2.1 20) x _ x ∧ 1 ≤ (upd (σ.2.1 20) x _ x).toInt
        rw [upd_at, upd_at, t20]
        exact ⟨rfl, by omega⟩
      · exact a9 x hx e hd
theorem lpp {S T : Type} {φ : Nat → S → S} {ψ : Nat → T → T} (I : Nat → S → T → Prop) : ∀ (n i : Nat) (s : S) (t : T), I i s t → (∀ j s t, i ≤ j → j < i + n → I j s t → I (j + 1) (φ j s) (ψ j t)) → I (i + n) (lp φ i n s) (lp ψ i n t)
  | 0, i, s, t, h, _ => h
  | n + 1, i, s, t, h, hs => by
    have := lpp I n (i + 1) (φ i s) (ψ i t) (hs i s t (Nat.le_refl _) (by omega) h) (fun j s t h1 h2 h3 => hs j s t (by omega) (by omega) h3)
    rw [show i + (n + 1) = (i + 1) + n by omega]
    exact this
theorem flow_same {σ : rS} {i : Nat} : (k_flow i σ).1 28 = σ.1 28 ∧ (k_flow i σ).2.1 37 = σ.2.1 37 ∧ (k_flow i σ).2.1 19 = σ.2.1 19 := by
  unfold k_flow
  split
  · exact ⟨rfl, rfl, rfl⟩
  · exact ⟨rfl, rfl, rfl⟩
theorem gflow_same {κ : cS} {i : Nat} : (g_flow κ i).1.2.1 41 = κ.1.2.1 41 := by
  unfold g_flow
  split
  · rfl
  · rfl
theorem Cx_minute {nf nj nm : Nat} {B : Int} {σ : rS} {κ : cS} (h : Cx nf nj nm 100 B σ κ) (hO : tO nm σ κ) (hB9 : B ≤ 900000) (ht : (σ.1 28).toInt + 1 ≤ 20000) : Cx nf nj nm 100 (B + 10) (f_minute σ) (n_1 nf nj nm κ) ∧ tO nm (f_minute σ) (n_1 nf nj nm κ) ∧ (f_minute σ).1 28 = σ.1 28 + 1 := by
  have hb := h.2.2.1.1
  rw [minute_eq h.2.1]
  unfold m_1 m_2 m_3 m_4 m_5 n_1 n_2 n_3 n_4
  -- who goes
  have g1 : Cx nf nj nm 100 B (lp k_going 0 nm σ) κ ∧ Md nm 0 (lp k_going 0 nm σ) κ ∧ (lp k_going 0 nm σ).1 28 = σ.1 28 := by
    have key : ∀ r, r ≤ nm → (∀ x, x < r → ((lp k_going 0 r σ).2.1 37 x = 0 ↔ σ.2.1 19 x = 0)) ∧ (∀ k, k ≠ 37 → (lp k_going 0 r σ).2.1 k = σ.2.1 k) ∧ (lp k_going 0 r σ).1 = σ.1 ∧ (lp k_going 0 r σ).2.2 = σ.2.2 := by
      intro r hr
      have hinv := lp_inv (φ := k_going) (fun i τ => i ≤ nm → (∀ x, x < i → (τ.2.1 37 x = 0 ↔ σ.2.1 19 x = 0)) ∧ (∀ k, k ≠ 37 → τ.2.1 k = σ.2.1 k) ∧ τ.1 = σ.1 ∧ τ.2.2 = σ.2.2) r 0 σ (fun _ => ⟨fun x hx => absurd hx (by omega), fun k _ => rfl, rfl, rfl⟩) (fun j τ h1 h2 h3 h4 => ?_)
      · rw [Nat.zero_add] at hinv
        exact hinv hr
      · obtain ⟨a, b, c, d⟩ := h3 (by omega)
        have cj := nI_cl (n := j) (by omega)
        refine ⟨fun x hx => ?_, fun k hk => ?_, c, d⟩
        · show (upd (τ.2.1 37) (nI j).toNatClampNeg (vp_nar .boolean (if rg τ 19 (nI j) = 0 then 0 else 1)) x = 0 ↔ σ.2.1 19 x = 0)
          rw [cj]
          by_cases e : x = j
          · subst e
            rw [upd_at]
            have e19 : rg τ 19 (nI x) = σ.2.1 19 x := by unfold rg; rw [cj, b 19 (by decide)]
            rw [e19]
            by_cases q : σ.2.1 19 x = 0
            · rw [if_pos q]
              exact ⟨fun _ => q, fun _ => by decide⟩
            · rw [if_neg q]
              exact ⟨fun q9 => absurd q9 (by decide), fun q9 => absurd q9 q⟩
          · rw [upd_ne e]
            exact a x (by omega)
        · show (if k = 37 then _ else τ.2.1 k) = _
          rw [if_neg hk]
          exact b k hk
    obtain ⟨a, b, c, d⟩ := key nm (Nat.le_refl _)
    have hN9 : rN nf nj nm (lp k_going 0 nm σ) := (rK_lp (fun i σ => rK_going) nm 0 σ).N h.2.1
    generalize lp k_going 0 nm σ = τ at *
    have hh := h
    obtain ⟨hE, hN, hI, hA, hB1, hC, hD, hEe, hF, hG, hH, hIi, hJ, hK, hL⟩ := h
    refine ⟨⟨⟨fun k hk => by rw [b k (fun e => by rw [e] at hk; cases hk)]; exact hE.1 k hk, fun k hk => by rw [c]; exact hE.2.1 k hk, by rw [d]; exact hE.2.2⟩, hN9, hI, ?_, ?_, ?_, ?_, ?_, ?_, ?_, ?_, ?_, ?_, ?_, ?_⟩, ⟨?_, ?_⟩, by rw [c]⟩
    · unfold tA; rw [b 1 (by decide), b 2 (by decide)]; exact hA
    · unfold tB; rw [c]; exact hB1
    · unfold tC; rw [c]; exact hC
    · unfold tD; rw [b 8 (by decide)]; exact hD
    · unfold tE; rw [b 14 (by decide), b 21 (by decide)]; exact hEe
    · unfold tF; rw [b 19 (by decide), b 20 (by decide)]; exact hF
    · unfold tG; rw [b 21 (by decide), b 24 (by decide), b 25 (by decide)]; exact hG
    · unfold tH; rw [b 23 (by decide), b 19 (by decide), b 15 (by decide), c]; exact hH
    · unfold tI; rw [b 36 (by decide), c]; exact hIi
    · unfold tJ; rw [b 33 (by decide), b 40 (by decide)]; exact hJ
    · unfold tK; rw [b 30 (by decide), c]; exact hK
    · unfold tL; rw [b 17 (by decide), b 19 (by decide), b 21 (by decide), b 22 (by decide), b 2 (by decide), b 4 (by decide), b 9 (by decide), b 10 (by decide), b 11 (by decide)]; exact hL
    · intro m hm
      have := hO m hm
      rw [c]
      omega
    · intro m _ hm
      have := hO m hm
      rw [b 19 (by decide), c]
      constructor
      · intro q
        exact ⟨fun q2 => q ((a m hm).mpr q2), fun q2 => by rw [q2] at this; omega⟩
      · intro q q2
        exact q.1 ((a m hm).mp q2)
  obtain ⟨g1, g2, g3⟩ := g1
  generalize lp k_going 0 nm σ = s1 at *
  -- flow
  have f1 : Cx nf nj nm 100 B (lp k_flow 0 nf s1) (lp k_cflow 0 nf κ) ∧ Md nm 0 (lp k_flow 0 nf s1) (lp k_cflow 0 nf κ) ∧ (lp k_flow 0 nf s1).1 28 = σ.1 28 :=
    lpp (fun _ s t => Cx nf nj nm 100 B s t ∧ Md nm 0 s t ∧ s.1 28 = σ.1 28) nf 0 s1 κ ⟨g1, g2, g3⟩ (fun j s t _ h2 h3 => by
      obtain ⟨x1, x2, x3⟩ := flow_same (σ := s) (i := j)
      have x4 := gflow_same (κ := t) (i := j)
      refine ⟨Cx_flow h3.1 (by omega), ⟨fun m hm => ?_, fun m hm hm2 => ?_⟩, x1.trans h3.2.2⟩
      · show ((g_flow t j).1.2.1 41 m).toInt ≤ _
        rw [x4, x1]
        exact h3.2.1.1 m hm
      · show _ ↔ _ ∧ ¬ (g_flow t j).1.2.1 41 m = _
        rw [x1, x2, x3, x4]
        exact h3.2.1.2 m hm hm2)
  obtain ⟨f1, f2, f3⟩ := f1
  generalize lp k_flow 0 nf s1 = s2 at *
  generalize lp k_cflow 0 nf κ = t2 at *
  -- fill
  have l1 : Cx nf nj nm 100 B (lp k_fill 0 nf s2) (lp k_cfill 0 nf t2) ∧ Md nm 0 (lp k_fill 0 nf s2) (lp k_cfill 0 nf t2) ∧ (lp k_fill 0 nf s2).1 28 = σ.1 28 :=
    lpp (fun _ s t => Cx nf nj nm 100 B s t ∧ Md nm 0 s t ∧ s.1 28 = σ.1 28) nf 0 s2 t2 ⟨f1, f2, f3⟩ (fun j s t _ h2 h3 => by
      have x := Cx_fill h3.1 (i := j) (by omega) h3.2.1
      refine ⟨x.1, x.2, ?_⟩
      rw [← h3.2.2]
      unfold k_fill
      split
      · rfl
      · unfold f_fill
        split
        · unfold f_fill2 f_fill1
          split <;> split <;> rfl
        · rfl)
  obtain ⟨l1, l2, l3⟩ := l1
  generalize lp k_fill 0 nf s2 = s3 at *
  generalize lp k_cfill 0 nf t2 = t3 at *
  -- walk
  have w1 : Cx nf nj nm 100 (B + ((0 + nm : Nat) : Int)) (lp k_walk 0 nm s3) (lp k_cwalk 0 nm t3) ∧ Md nm (0 + nm) (lp k_walk 0 nm s3) (lp k_cwalk 0 nm t3) ∧ (lp k_walk 0 nm s3).1 28 = σ.1 28 :=
    lpp (fun i s t => Cx nf nj nm 100 (B + (i : Int)) s t ∧ Md nm i s t ∧ s.1 28 = σ.1 28) nm 0 s3 t3 ⟨l1.wB (by omega), l2, l3⟩ (fun j s t _ h2 h3 => by
      have x := Cx_walk h3.1 (m := j) (by omega) (by omega) h3.2.1
      refine ⟨x.1.wB (by omega), x.2, ?_⟩
      rw [← h3.2.2]
      unfold k_walk
      split
      · rfl
      · unfold k_walk1
        split
        · split
          · rw [f_pour_pr]
            show (f_pr _ _).1 28 = _
            rw [pr_same.1]
            rfl
          · rfl
        · rfl)
  obtain ⟨w1, w2, w3⟩ := w1
  generalize lp k_walk 0 nm s3 = s4 at *
  generalize lp k_cwalk 0 nm t3 = t4 at *
  -- drink
  have d1 : Cx nf nj nm 100 (B + ((0 + nm : Nat) : Int)) (lp k_drink 0 nj s4) (lp k_cdrink 0 nj t4) ∧ Md nm (0 + nm) (lp k_drink 0 nj s4) (lp k_cdrink 0 nj t4) ∧ (lp k_drink 0 nj s4).1 28 = σ.1 28 :=
    lpp (fun _ s t => Cx nf nj nm 100 (B + ((0 + nm : Nat) : Int)) s t ∧ Md nm (0 + nm) s t ∧ s.1 28 = σ.1 28) nj 0 s4 t4 ⟨w1, w2, w3⟩ (fun j s t _ h2 h3 => ⟨Cx_drink h3.1 (by omega), h3.2.1, h3.2.2⟩)
  obtain ⟨d1, d2, d3⟩ := d1
  generalize lp k_drink 0 nj s4 = s5 at *
  generalize lp k_cdrink 0 nj t4 = t5 at *
  have tt : (s5.1 28 + 1).toInt = (σ.1 28).toInt + 1 := by
    have := fb_rng (σ.1 28)
    rw [d3, fb_addI (by rw [t_1]; omega) (by rw [t_1]; omega), t_1]
  have e28 : t5.1.1 28 = s5.1 28 := d1.1.2.1 28 rfl
  refine ⟨?_, fun m hm => ?_, by rw [← d3]; rfl⟩
  · rw [e28]
    obtain ⟨a1, a2, a3, a4, a5, a6, a7, a8, a9, a10, a11, a12, a13, a14, a15⟩ := d1
    refine Cx.wB (B := B + ((0 + nm : Nat) : Int)) ⟨a1.sc 28 _, a2, a3, a4, a5, ?_, a7, a8, a9, a10, a11, a12, a13, a14, a15⟩ (by omega)
    show 0 ≤ (s5.1 28 + 1).toInt ∧ (s5.1 28 + 1).toInt ≤ 20000
    have := a6
    unfold tC at this
    rw [tt]
    rw [d3] at this
    omega
  · show (t5.1.2.1 41 m).toInt < (s5.1 28 + 1).toInt
    have := d2.1 m hm
    rw [tt]
    rw [d3] at this
    omega
