/-! ===== pourings: the ring and the shifted row ===== -/
def w6 (f : Nat → Int32) (b : Nat) (vv : Nat → Int32) : Nat → Int32 := upd (upd (upd (upd (upd (upd f b (vv 0)) (b + 1) (vv 1)) (b + 2) (vv 2)) (b + 3) (vv 3)) (b + 4) (vv 4)) (b + 5) (vv 5)
theorem w6_at {f : Nat → Int32} {b w : Nat} {vv : Nat → Int32} (hw : w < 6) : w6 f b vv (b + w) = vv w := by
  unfold w6
  rcases (show w = 0 ∨ w = 1 ∨ w = 2 ∨ w = 3 ∨ w = 4 ∨ w = 5 by omega) with e | e | e | e | e | e <;> subst e
  · rw [upd_ne (by omega), upd_ne (by omega), upd_ne (by omega), upd_ne (by omega), upd_ne (by omega), Nat.add_zero, upd_at]
  · rw [upd_ne (by omega), upd_ne (by omega), upd_ne (by omega), upd_ne (by omega), upd_at]
  · rw [upd_ne (by omega), upd_ne (by omega), upd_ne (by omega), upd_at]
  · rw [upd_ne (by omega), upd_ne (by omega), upd_at]
  · rw [upd_ne (by omega), upd_at]
  · rw [upd_at]
theorem w6_ne {f : Nat → Int32} {b x : Nat} {vv : Nat → Int32} (hx : x < b ∨ b + 6 ≤ x) : w6 f b vv x = f x := by
  unfold w6
  rw [upd_ne (by omega), upd_ne (by omega), upd_ne (by omega), upd_ne (by omega), upd_ne (by omega), upd_ne (by omega)]
theorem sub6 {i : Nat} (h : 6 ≤ i) (h2 : i < 600) : (nI i - 6).toNatClampNeg = i - 6 := by
  have e : nI i - 6 = nI (i - 6) := by
    apply Int32.toInt_inj.mp
    rw [fb_subI (by rw [nI_toInt (by omega), show (6 : Int32).toInt = 6 by decide]; omega) (by rw [nI_toInt (by omega), show (6 : Int32).toInt = 6 by decide]; omega), nI_toInt (by omega), nI_toInt (by omega), show (6 : Int32).toInt = 6 by decide]
    omega
  rw [e, nI_cl (by omega)]
theorem shift_row : ∀ (n i : Nat) (σ : rS), 6 ≤ i → i + n ≤ 600 → ∀ x, (lp k_shift i n σ).2.1 36 x = if i - 6 ≤ x ∧ x < i - 6 + n then σ.2.1 36 (x + 6) else σ.2.1 36 x
  | 0, i, σ, _, _, x => by
    rw [if_neg (by omega)]
    rfl
  | n + 1, i, σ, hi, hn, x => by
    have e : (k_shift i σ).2.1 36 = upd (σ.2.1 36) (i - 6) (σ.2.1 36 i) := by
      show upd (σ.2.1 36) (nI i - 6).toNatClampNeg (σ.2.1 36 (nI i).toNatClampNeg) = _
      rw [sub6 hi (by omega), nI_cl (by omega)]
    rw [lp, shift_row n (i + 1) (k_shift i σ) (by omega) (by omega) x, e]
    by_cases h1 : x = i - 6
    · subst h1
      rw [if_neg (by omega), if_pos (by omega), upd_at, show i - 6 + 6 = i by omega]
    · by_cases h2 : i + 1 - 6 ≤ x ∧ x < i + 1 - 6 + n
      · rw [if_pos h2, if_pos (by omega), upd_ne (by omega)]
      · rw [if_neg h2, if_neg (by omega), upd_ne h1]
theorem shiftN (N : Nat) (hN : N ≤ 594) (σ : rS) : ∃ τ, lp k_shift 6 N σ = τ ∧ τ.1 = σ.1 ∧ τ.2.2 = σ.2.2 ∧ (∀ k, k ≠ 36 → τ.2.1 k = σ.2.1 k) ∧ ∀ x, x < N → τ.2.1 36 x = σ.2.1 36 (x + 6) := by
  obtain ⟨s1, s2, s3⟩ := k_shift_sc N 6 σ
  refine ⟨_, rfl, s1, s2, s3, fun x hx => ?_⟩
  rw [shift_row N 6 σ (by omega) (by omega), if_pos (by omega)]
theorem keep1_full {σ : rS} (h : σ.1 35 = 100) : ∃ τ, f_keep1 σ = rs τ 35 (σ.1 35 - 1) ∧ τ.1 = σ.1 ∧ (∀ k, k ≠ 36 → τ.2.1 k = σ.2.1 k) ∧ ∀ x, x < 594 → τ.2.1 36 x = σ.2.1 36 (x + 6) := by
  obtain ⟨τ, e, s1, s2, s3, s4⟩ := shiftN 594 (Nat.le_refl _) σ
  refine ⟨τ, ?_, s1, s3, s4⟩
  rw [f_keep1, if_pos h, e]
theorem i6r {q c : Nat} (hq : q < 100) (hc : c < 6) : (6 * nI q + nI c).toNatClampNeg = 6 * q + c := by
  rw [Int32.mul_comm, i6 hq hc, nI_cl (by omega)]
theorem i6z {q : Nat} (hq : q < 100) : (6 * nI q).toNatClampNeg = 6 * q := by
  have := i6r hq (c := 0) (by omega)
  rw [show nI 0 = 0 from rfl, Int32.add_zero] at this
  exact this
def vvR (σ : rS) (m j v : Int32) : Nat → Int32 := fun w => if w = 0 then m else if w = 1 then j else if w = 2 then v else if w = 3 then σ.1 28 else if w = 4 then rg σ 24 m else rg σ 25 m
theorem keep2_row {σ : rS} {m j v : Int32} {p : Nat} (hp : p < 100) (e : σ.1 35 = nI p) : (f_keep2 σ m j v).2.1 36 = w6 (σ.2.1 36) (6 * p) (vvR σ m j v) ∧ (f_keep2 σ m j v).1 35 = nI (p + 1) := by
  constructor
  · show upd (upd (upd (upd (upd (upd (σ.2.1 36) (6 * σ.1 35).toNatClampNeg m) (6 * σ.1 35 + 1).toNatClampNeg j) (6 * σ.1 35 + 2).toNatClampNeg v) (6 * σ.1 35 + 3).toNatClampNeg (σ.1 28)) (6 * σ.1 35 + 4).toNatClampNeg (rg σ 24 m)) (6 * σ.1 35 + 5).toNatClampNeg (rg σ 25 m) = _
    rw [e, i6z hp, show (6 * nI p + 1 : Int32).toNatClampNeg = 6 * p + 1 from i6r hp (c := 1) (by omega), show (6 * nI p + 2 : Int32).toNatClampNeg = 6 * p + 2 from i6r hp (c := 2) (by omega), show (6 * nI p + 3 : Int32).toNatClampNeg = 6 * p + 3 from i6r hp (c := 3) (by omega), show (6 * nI p + 4 : Int32).toNatClampNeg = 6 * p + 4 from i6r hp (c := 4) (by omega), show (6 * nI p + 5 : Int32).toNatClampNeg = 6 * p + 5 from i6r hp (c := 5) (by omega)]
    rfl
  · show σ.1 35 + 1 = nI (p + 1)
    rw [e]
    exact nI_1 p
def vvC (κ : cS) (m : Nat) (v t : Int32) : Nat → Int32 := fun w => if w = 0 then nI m else if w = 1 then κ.1.2.1 16 m else if w = 2 then v else if w = 3 then t else if w = 4 then κ.1.2.1 24 m else κ.1.2.1 25 m
theorem gkeep_eq {κ : cS} {m q : Nat} {v t : Int32} (hq : q < 100) (e : κ.1.1 42 = nI q) : g_keep κ m v t = cs (cs (cr κ 36 (w6 (κ.1.2.1 36) (6 * q) (vvC κ m v t))) 42 (nI ((q + 1) % 100))) 35 (q_min 100 (κ.1.1 35 + 1)) := by
  have h : ∀ c, c < 6 → (nI q * 6 + nI c).toNatClampNeg = 6 * q + c := fun c hc => by rw [i6 hq hc, nI_cl (by omega)]
  unfold g_keep
  rw [e, next_ok q hq, show (nI q * 6 + 0 : Int32).toNatClampNeg = 6 * q + 0 from h 0 (by omega), show (nI q * 6 + 1 : Int32).toNatClampNeg = 6 * q + 1 from h 1 (by omega), show (nI q * 6 + 2 : Int32).toNatClampNeg = 6 * q + 2 from h 2 (by omega), show (nI q * 6 + 3 : Int32).toNatClampNeg = 6 * q + 3 from h 3 (by omega), show (nI q * 6 + 4 : Int32).toNatClampNeg = 6 * q + 4 from h 4 (by omega), show (nI q * 6 + 5 : Int32).toNatClampNeg = 6 * q + 5 from h 5 (by omega)]
  unfold cp
  rw [show ∀ (f h : Nat → Int32), cr (cr κ 36 f) 36 h = cr κ 36 h from fun _ _ => cr_cr]
  simp only [cr_cr]
  rfl
theorem Cx_keep {nf nj nm e0 m : Nat} {B : Int} {σ : rS} {κ : cS} (h : Cx nf nj nm e0 B σ κ) (hm : m < nm) {v : Int32} (h24 : κ.1.2.1 24 m = σ.2.1 24 m) (h25 : κ.1.2.1 25 m = σ.2.1 25 m) : Cx nf nj nm e0 B (f_keep2 (f_keep1 σ) (nI m) (rg σ 16 (nI m)) v) (g_keep κ m v (κ.1.1 28)) := by
  have hN9 : rN nf nj nm (f_keep2 (f_keep1 σ) (nI m) (rg σ 16 (nI m)) v) := rK_keep.N h.2.1
  have hI9 : cI nf nj nm (g_keep κ m v (κ.1.1 28)) := cI_keep h.2.2.1
  obtain ⟨hE, hN, hI, hA, hB, hC, hD, hEe, hF, hG, hH, hIi, hJ, hK, hL⟩ := h
  have hb := hI.1
  have cm := nI_cl (n := m) (by omega)
  obtain ⟨np, q, hnp, hq, e35, e42, hring⟩ := hIi
  -- what the reference has
  have key : ∃ (p : Nat) (R : Nat → Int32), p < 100 ∧ (f_keep2 (f_keep1 σ) (nI m) (rg σ 16 (nI m)) v).2.1 36 = w6 R (6 * p) (vvR σ (nI m) (rg σ 16 (nI m)) v) ∧ (f_keep2 (f_keep1 σ) (nI m) (rg σ 16 (nI m)) v).1 35 = nI (p + 1) ∧ p + 1 = min 100 (np + 1) ∧ ∀ i, i < np → i < p → ∀ w, w < 6 → R (6 * (p - 1 - i) + w) = σ.2.1 36 (6 * (np - 1 - i) + w) := by
    by_cases h100 : np = 100
    · obtain ⟨υ, ek, s1, s3, s4⟩ := keep1_full (σ := σ) (by rw [e35, h100]; rfl)
      have e99 : (f_keep1 σ).1 35 = nI 99 := by
        rw [ek]
        show σ.1 35 - 1 = nI 99
        rw [e35, h100]
        decide
      obtain ⟨r1, r2⟩ := keep2_row (m := nI m) (j := rg σ 16 (nI m)) (v := v) (σ := f_keep1 σ) (p := 99) (by omega) e99
      have hrow : (f_keep1 σ).2.1 = υ.2.1 := by rw [ek]; rfl
      have hsc : (f_keep1 σ).1 28 = σ.1 28 := by
        rw [ek]
        show υ.1 28 = σ.1 28
        rw [s1]
      have hvv : vvR (f_keep1 σ) (nI m) (rg σ 16 (nI m)) v = vvR σ (nI m) (rg σ 16 (nI m)) v := by
        unfold vvR rg
        rw [hsc, hrow, s3 24 (by decide), s3 25 (by decide)]
      rw [hvv] at r1
      refine ⟨99, (f_keep1 σ).2.1 36, by omega, r1, r2, by omega, fun i hi hi2 w hw => ?_⟩
      rw [hrow, s4 _ (by omega), show 6 * (99 - 1 - i) + w + 6 = 6 * (np - 1 - i) + w by omega]
    · have ek : f_keep1 σ = σ := by
        rw [f_keep1, if_neg]
        rw [e35, show (100 : Int32) = nI 100 from rfl, nI_eq_iff (by omega) (by omega)]
        exact h100
      rw [ek]
      obtain ⟨r1, r2⟩ := keep2_row (m := nI m) (j := rg σ 16 (nI m)) (v := v) (σ := σ) (p := np) (by omega) e35
      exact ⟨np, σ.2.1 36, by omega, r1, r2, by omega, fun i hi hi2 w hw => rfl⟩
  obtain ⟨p, R, hp, r1, r2, r3, r4⟩ := key
  have e2 := gkeep_eq (m := m) (v := v) (t := κ.1.1 28) hq e42
  have hk35 : q_min 100 (κ.1.1 35 + 1) = nI (p + 1) := by
    rw [hE.2.1 35 rfl, e35, kept_ok np hnp, r3]
  have hvv : ∀ w, w < 6 → vvC κ m v (κ.1.1 28) w = vvR σ (nI m) (rg σ 16 (nI m)) v w := by
    intro w hw
    unfold vvC vvR rg
    rw [cm, h24, h25, hE.1 16 rfl, hE.2.1 28 rfl]
  have ar := fun k hk => keep_ar (σ := σ) (m := nI m) (j := rg σ 16 (nI m)) (v := v) k hk
  have sc := fun k hk => keep_sc (σ := σ) (m := nI m) (j := rg σ 16 (nI m)) (v := v) k hk
  have su := keep_su (σ := σ) (m := nI m) (j := rg σ 16 (nI m)) (v := v)
  rw [e2] at hI9 ⊢
  generalize hτ : f_keep2 (f_keep1 σ) (nI m) (rg σ 16 (nI m)) v = τ at *
  refine ⟨⟨fun k hk => ?_, fun k hk => ?_, ?_⟩, hN9, hI9, ?_, ?_, ?_, ?_, ?_, ?_, ?_, ?_, ?_, ?_, ?_, ?_⟩
  · have hk36 : k ≠ 36 := fun e => by rw [e] at hk; cases hk
    rw [ar k hk36, ← hE.1 k hk]
    show (if k = 36 then _ else κ.1.2.1 k) = _
    rw [if_neg hk36]
  · by_cases h35 : k = 35
    · rw [h35, r2, ← hk35]
      rfl
    · rw [sc k h35, ← hE.2.1 k hk]
      have h42 : k ≠ 42 := fun e => by rw [e] at hk; cases hk
      show upd (upd κ.1.1 42 _) 35 _ k = _
      rw [upd_ne h35, upd_ne h42]
  · rw [su]
    exact hE.2.2
  · intro i hi
    rw [ar 1 (by decide), ar 2 (by decide)]
    exact hA i hi
  · unfold tB
    rw [sc 27 (by decide)]
    exact hB
  · unfold tC
    rw [sc 28 (by decide)]
    exact hC
  · intro j hj
    rw [ar 8 (by decide)]
    exact hD j hj
  · intro x hx
    rw [ar 14 (by decide), ar 21 (by decide)]
    exact hEe x hx
  · intro x hx
    rw [ar 19 (by decide), ar 20 (by decide)]
    exact hF x hx
  · intro x hx
    rw [ar 21 (by decide), ar 24 (by decide), ar 25 (by decide)]
    exact hG x hx
  · unfold tH
    rw [ar 23 (by decide), ar 19 (by decide), ar 15 (by decide), sc 26 (by decide)]
    exact hH
  · refine ⟨p + 1, (q + 1) % 100, by omega, by omega, r2, rfl, fun i hi w hw => ?_⟩
    rw [r1]
    show w6 (κ.1.2.1 36) (6 * q) (vvC κ m v (κ.1.1 28)) _ = _
    by_cases hi0 : i = 0
    · subst hi0
      have e9 : ((q + 1) % 100 + 99 - 0) % 100 = q := by omega
      rw [e9, w6_at hw, show p + 1 - 1 - 0 = p by omega, w6_at hw]
      exact hvv w hw
    · have e9 : ((q + 1) % 100 + 99 - i) % 100 = (q + 99 - (i - 1)) % 100 := by omega
      rw [e9, w6_ne (by omega), w6_ne (by omega), hring (i - 1) (by omega) w hw]
      have h9 := r4 (i - 1) (by omega) (by omega) w hw
      rw [show p + 1 - 1 - i = p - 1 - (i - 1) by omega, h9]
  · intro k hk
    rw [ar 33 (by decide), ar 40 (by decide)]
    exact hJ k hk
  · unfold tK
    rw [sc 31 (by decide), ar 30 (by decide)]
    exact hK
  · unfold tL
    rw [ar 17 (by decide), ar 19 (by decide), ar 21 (by decide), ar 22 (by decide), ar 2 (by decide), ar 4 (by decide), ar 9 (by decide), ar 10 (by decide), ar 11 (by decide)]
    exact hL
