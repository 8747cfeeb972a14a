/-! ===== the same answers, 4 ===== -/
theorem fm_at {a b c d : Int32} : fm a b c d 0 = a ∧ fm a b c d 1 = b ∧ fm a b c d 2 = c ∧ fm a b c d 3 = d := by
  refine ⟨rfl, rfl, rfl, rfl⟩
theorem min_iff {σ : rS} {nf k : Nat} {v : Int32} (h : σ.1 0 = nI nf) (hf : nf ≤ 4) (hk : k < 4) : q_isMin σ (nI k) v = true ↔ (k < nf → q_in v 1 30 = true) := by
  unfold q_isMin
  rw [h, Bool.or_eq_true, decide_eq_true_eq, nI_le_iff (by omega) (by omega)]
  constructor
  · rintro (q | q) q2
    · omega
    · exact q
  · intro q
    by_cases q2 : k < nf
    · exact Or.inr (q q2)
    · exact Or.inl (by omega)
theorem okm_iff {σ : rS} {nf : Nat} {a b c d : Int32} (h : σ.1 0 = nI nf) (hf : nf ≤ 4) : (q_isMin σ 0 a && (q_isMin σ 1 b && (q_isMin σ 2 c && q_isMin σ 3 d))) = true ↔ okm nf (fm a b c d) := by
  rw [Bool.and_eq_true, Bool.and_eq_true, Bool.and_eq_true, show (0 : Int32) = nI 0 from rfl, show (1 : Int32) = nI 1 from rfl, show (2 : Int32) = nI 2 from rfl, show (3 : Int32) = nI 3 from rfl, min_iff h hf (by omega), min_iff h hf (by omega), min_iff h hf (by omega), min_iff h hf (by omega)]
  obtain ⟨e0, e1, e2, e3⟩ := fm_at (a := a) (b := b) (c := c) (d := d)
  constructor
  · rintro ⟨q0, q1, q2, q3⟩ i hi
    rcases (show i = 0 ∨ i = 1 ∨ i = 2 ∨ i = 3 by omega) with e | e | e | e <;> subst e
    · rw [e0]; exact q0 hi
    · rw [e1]; exact q1 hi
    · rw [e2]; exact q2 hi
    · rw [e3]; exact q3 hi
  · intro q
    exact ⟨fun hi => by rw [← e0]; exact q 0 hi, fun hi => by rw [← e1]; exact q 1 hi, fun hi => by rw [← e2]; exact q 2 hi, fun hi => by rw [← e3]; exact q 3 hi⟩
theorem jar_bad {c : Int} {nf nj nm : Nat} {σ : rS} {κ : cS} (h : S c nf nj nm σ κ) {fl ho a b e d : Int32} (hq : (q_in fl 0 9 && q_in ho 1 200) = false ∨ ¬ okm nf (fm a b e d)) : f_jar σ fl ho a b e d = (-1, σ) := by
  unfold f_jar
  rw [if_neg]
  intro q
  rw [Bool.and_eq_true, Bool.and_eq_true] at q
  rcases hq with hq | hq
  · rw [q.1, q.2.1] at hq
    cases hq
  · exact hq ((okm_iff h.1.2.1.2.1 h.1.2.2.1.1.1).mp q.2.2)
def row8 (σ : rS) (n : Nat) (a b c d : Int32) : Nat → Int32 := upd (upd (upd (upd (σ.2.1 8) (4 * n) a) (4 * n + 1) b) (4 * n + 2) c) (4 * n + 3) d
theorem row8_at {σ : rS} {n i : Nat} {a b c d : Int32} (hi : i < 4) : row8 σ n a b c d (4 * n + i) = fm a b c d i := by
  obtain ⟨e0, e1, e2, e3⟩ := fm_at (a := a) (b := b) (c := c) (d := d)
  unfold row8
  rcases (show i = 0 ∨ i = 1 ∨ i = 2 ∨ i = 3 by omega) with e | e | e | e <;> subst e
  · rw [e0, upd_ne (by omega), upd_ne (by omega), upd_ne (by omega), Nat.add_zero, upd_at]
  · rw [e1, upd_ne (by omega), upd_ne (by omega), upd_at]
  · rw [e2, upd_ne (by omega), upd_at]
  · rw [e3, upd_at]
theorem row8_ne {σ : rS} {n x : Nat} {a b c d : Int32} (hx : x < 4 * n) : row8 σ n a b c d x = σ.2.1 8 x := by
  unfold row8
  rw [upd_ne (by omega), upd_ne (by omega), upd_ne (by omega), upd_ne (by omega)]
theorem s_jar {c : Int} {nf nj nm : Nat} {σ : rS} {κ : cS} (h : S c nf nj nm σ κ) {fl ho a b e d : Int32} (h1 : (q_in fl 0 9 && q_in ho 1 200) = true) (h2 : okm nf (fm a b e d)) : (g_jar2 nf nj κ fl ho (fm a b e d)).1 = (f_jar σ fl ho a b e d).1 ∧ S (c + 1) nf (g_jar2 nf nj κ fl ho (fm a b e d)).2.1 nm (f_jar σ fl ho a b e d).2 (g_jar2 nf nj κ fl ho (fm a b e d)).2.2 := by
  have hb := h.1.2.2.1.1
  rw [Bool.and_eq_true] at h1
  unfold f_jar g_jar2
  have hcnd : (q_in fl 0 9 && (q_in ho 1 200 && (q_isMin σ 0 a && (q_isMin σ 1 b && (q_isMin σ 2 e && q_isMin σ 3 d))))) = true := by rw [Bool.and_eq_true, Bool.and_eq_true]; exact ⟨h1.1, h1.2, (okm_iff h.1.2.1.2.1 hb.1).mpr h2⟩
  rw [if_pos hcnd, h.1.2.1.2.1, h.1.2.1.2.2.1]
  by_cases hf : nf = 0
  · rw [if_pos hf, if_pos (show nI nf = 0 by rw [hf]; rfl)]
    exact ⟨rfl, h.up⟩
  · rw [if_neg hf, if_neg (show ¬ nI nf = 0 from fun q => hf ((nI_eq_iff (b := 0) (by omega) (by omega)).mp q))]
    by_cases hj : nj < 8
    · rw [if_pos hj, if_neg (show ¬ nI nj = 8 from fun q => by have := (nI_eq_iff (a := nj) (b := 8) (by omega) (by omega)).mp q; omega)]
      refine ⟨succ1.symm, ?_⟩
      have hr := q_in_iff.mp h1.1
      rw [t_0, show (9 : Int32).toInt = 9 by decide] at hr
      have h9 := h.up
      obtain ⟨⟨hE, hN, hI, hA, hB, hC, hD, hEe, hF, hG, hH, hIi, hJ, hK, hL⟩, hO⟩ := h
      have cn := nI_cl (n := nj) (by omega)
      have hz := hL.2.2 nj (Nat.le_refl _) hj
      have c0 : (4 * nI nj).toNatClampNeg = 4 * nj := by
        have := i4 (j := nj) (f := 0) hj (by omega)
        rw [show nI 0 = 0 from rfl, Int32.add_zero] at this
        rw [this, nI_cl (by omega)]
        omega
      have c4 : ∀ f, f < 4 → (4 * nI nj + nI f).toNatClampNeg = 4 * nj + f := fun f hf => by rw [i4 hj hf, nI_cl (by omega)]
      have e1 : rs (rp (rp (rp (rp (rp (rp σ 6 (nI nj) fl) 7 (nI nj) ho) 8 (4 * nI nj) a) 8 (4 * nI nj + 1) b) 8 (4 * nI nj + 2) e) 8 (4 * nI nj + 3) d) 5 (nI nj + 1) = rs (ra (ra (ra σ 6 (upd (σ.2.1 6) nj fl)) 7 (upd (σ.2.1 7) nj ho)) 8 (row8 σ nj a b e d)) 5 (nI (nj + 1)) := by
        unfold rp
        rw [cn, c0, show (4 * nI nj + 1 : Int32).toNatClampNeg = 4 * nj + 1 from c4 1 (by omega), show (4 * nI nj + 2 : Int32).toNatClampNeg = 4 * nj + 2 from c4 2 (by omega), show (4 * nI nj + 3 : Int32).toNatClampNeg = 4 * nj + 3 from c4 3 (by omega), show nI nj + 1 = nI (nj + 1) from nI_1 nj]
        simp only [ra_ra]
        rfl
      rw [e1]
      refine ⟨⟨⟨fun k hk => ?_, fun k hk => ?_, hE.2.2⟩, ⟨⟨hN.1.1, ?_, hN.1.2.2.1, hN.1.2.2.2.1, hN.1.2.2.2.2.1, hN.1.2.2.2.2.2.1, hN.1.2.2.2.2.2.2.1, hN.1.2.2.2.2.2.2.2.1, fun x hx => ?_⟩, hN.2.1, rfl, hN.2.2.2.1, hN.2.2.2.2.1, by show nj + 1 ≤ 8; omega, hN.2.2.2.2.2.2⟩, ⟨by show nf ≤ 4 ∧ nj + 1 ≤ 8 ∧ nm ≤ 10; omega, ⟨hI.2.1.1, rfl, hI.2.1.2.2⟩, hI.2.2.1, fun m hm => ?_, hI.2.2.2.2.1, hI.2.2.2.2.2.1, hI.2.2.2.2.2.2.1, hI.2.2.2.2.2.2.2.1, fun m hm i hin hi => ?_, hI.2.2.2.2.2.2.2.2.2⟩, hA, hB, hC, fun j hj9 => ⟨fun i hi => ?_, fun i hi => ?_⟩, hEe, hF, hG, h9.1.2.2.2.2.2.2.2.2.2.2.1, hIi, hJ, hK, hL.1, hL.2.1, fun x hx hx2 => ?_⟩, hO⟩
      · show (if k = 11 then upd (κ.1.2.1 11) nj 0 else if k = 10 then upd (κ.1.2.1 10) nj 0 else if k = 9 then upd (κ.1.2.1 9) nj 0 else if k = 7 then upd (κ.1.2.1 7) nj ho else if k = 6 then upd (κ.1.2.1 6) nj fl else κ.1.2.1 k) = (if k = 8 then row8 σ nj a b e d else if k = 7 then upd (σ.2.1 7) nj ho else if k = 6 then upd (σ.2.1 6) nj fl else σ.2.1 k)
        have k8 : k ≠ 8 := fun q => by rw [q] at hk; cases hk
        rw [if_neg k8]
        by_cases k11 : k = 11
        · subst k11
          rw [if_pos rfl, if_neg (by decide), if_neg (by decide), hE.1 11 rfl]
          conv => lhs; rw [← hz.2.2]
          exact upd_id
        · by_cases k10 : k = 10
          · subst k10
            rw [if_neg (by decide), if_pos rfl, if_neg (by decide), if_neg (by decide), hE.1 10 rfl]
            conv => lhs; rw [← hz.2.1]
            exact upd_id
          · by_cases k9 : k = 9
            · subst k9
              rw [if_neg (by decide), if_neg (by decide), if_pos rfl, if_neg (by decide), if_neg (by decide), hE.1 9 rfl]
              conv => lhs; rw [← hz.1]
              exact upd_id
            · rw [if_neg k11, if_neg k10, if_neg k9, hE.1 7 rfl, hE.1 6 rfl, hE.1 k hk]
      · show upd κ.1.1 5 (nI (nj + 1)) k = upd σ.1 5 (nI (nj + 1)) k
        unfold upd
        rw [hE.2.1 k hk]
      · show 0 ≤ (nI (nj + 1)).toInt ∧ (nI (nj + 1)).toInt ≤ 8
        rw [nI_toInt (by omega)]
        omega
      · show 0 ≤ (upd (σ.2.1 6) nj fl x).toInt ∧ (upd (σ.2.1 6) nj fl x).toInt ≤ 9
        by_cases q : x = nj
        · rw [q, upd_at]; exact hr
        · rw [upd_ne q]; exact hN.1.2.2.2.2.2.2.2.2 x hx
      · obtain ⟨j, h8, h7⟩ := hI.2.2.2.1 m hm
        exact ⟨j, by show j < nj + 1; omega, h7⟩
      · show (if 100 = nj then fm a b e d else κ.2.2 100) i = 1
        rw [if_neg (by omega)]
        exact hI.2.2.2.2.2.2.2.2.1 m hm i hin hi
      · show (if j = nj then fm a b e d else κ.2.2 j) i = row8 σ nj a b e d (4 * j + i)
        by_cases q : j = nj
        · rw [if_pos q, q, row8_at hi]
        · have hj8 : j < nj + 1 := hj9
          rw [if_neg q, row8_ne (by omega)]
          exact (hD j (by omega)).1 i hi
      · show 1 ≤ (row8 σ nj a b e d (4 * j + i)).toInt ∧ (row8 σ nj a b e d (4 * j + i)).toInt ≤ 30
        by_cases q : j = nj
        · rw [q, row8_at (by omega)]
          have := q_in_iff.mp (h2 i hi)
          rw [t_1, show (30 : Int32).toInt = 30 by decide] at this
          exact this
        · have hj8 : j < nj + 1 := hj9
          rw [row8_ne (by omega)]
          exact (hD j (by omega)).2 i hi
      · exact hL.2.2 x (by have hx9 : nj + 1 ≤ x := hx; omega) hx2
    · rw [if_neg hj, if_pos (show nI nj = 8 by rw [show nj = 8 by omega]; rfl)]
      exact ⟨rfl, h.up⟩
/-- the class's table of toils -/
theorem t2_at {κ : cS} {man jar i : Nat} : ∀ (r j : Nat) (row : Nat → Int32) (x : Nat), ((6 * i + j ≤ x ∧ x < 6 * i + j + r) → lp (k_t2 κ man jar i) j r row x = q_toilC κ (man + i) (jar + (x - 6 * i))) ∧ (¬ (6 * i + j ≤ x ∧ x < 6 * i + j + r) → lp (k_t2 κ man jar i) j r row x = row x)
  | 0, j, row, x => ⟨fun h => absurd h.2 (by omega), fun _ => rfl⟩
  | r + 1, j, row, x => by
    rw [lp]
    obtain ⟨h1, h2⟩ := t2_at r (j + 1) (k_t2 κ man jar i j row) x
    refine ⟨fun h => ?_, fun h => ?_⟩
    · by_cases q : x = 6 * i + j
      · rw [h2 (by omega)]
        unfold k_t2
        rw [q, upd_at, show 6 * i + j - 6 * i = j by omega]
      · exact h1 (by omega)
    · rw [h2 (by omega)]
      unfold k_t2
      rw [upd_ne (by omega)]
theorem t1_at {κ : cS} {man jar n : Nat} (hn : n ≤ 6) : ∀ (r j : Nat) (row : Nat → Int32) (c k : Nat), k < n → (j ≤ c ∧ c < j + r → lp (k_t1 κ man jar n) j r row (6 * c + k) = q_toilC κ (man + c) (jar + k)) ∧ (¬ (j ≤ c ∧ c < j + r) → lp (k_t1 κ man jar n) j r row (6 * c + k) = row (6 * c + k))
  | 0, j, row, c, k, _ => ⟨fun h => absurd h.2 (by omega), fun _ => rfl⟩
  | r + 1, j, row, c, k, hk => by
    rw [lp]
    obtain ⟨h1, h2⟩ := t1_at hn r (j + 1) (k_t1 κ man jar n j row) c k hk
    obtain ⟨g1, g2⟩ := t2_at (κ := κ) (man := man) (jar := jar) (i := j) n 0 row (6 * c + k)
    refine ⟨fun h => ?_, fun h => ?_⟩
    · by_cases q : c = j
      · rw [h2 (by omega)]
        unfold k_t1
        rw [g1 (by omega), q, show 6 * j + k - 6 * j = k by omega]
      · exact h1 (by omega)
    · rw [h2 (by omega)]
      unfold k_t1
      rw [g2 (by omega)]
theorem tl_same {nf nj nm e0 : Nat} {B : Int} {σ : rS} {κ : cS} (h : Cx nf nj nm e0 B σ κ) {man jar n : Nat} (hn : n ≤ 6) (hm : man + n ≤ nm) (hj : jar + n ≤ nj) {x k : Nat} (hc : x < n) (hk : k < n) : h_tl κ man jar n (6 * x + k) = r_tl σ man jar (6 * x + k) := by
  have hb := h.2.2.1.1
  unfold h_tl
  rw [(t1_at hn n 0 (κ.1.2.1 38) x k hk).1 (by omega), tl_at (by omega)]
  obtain ⟨kd, fi, ji, hkd, hf, -, e13, e15, -⟩ := h.kd (m := man + x) (by omega)
  obtain ⟨w1, w2, -⟩ := way_eq h (m := man + x) (j := jar + k) (by omega) (by omega)
  unfold q_toilC q_canC q_rcan
  rw [w1, w2, h.1.1 13 rfl, e13, nI_cl (by omega), can_eq h hkd (by omega), show rg σ 13 (nI (man + x)) = nI kd by unfold rg; rw [nI_cl (by omega), e13]]
theorem tw_same {tl tl2 T : Nat → Int32} {n s k : Nat} (hn : n ≤ 6) (ht : ∀ c, c < n → ∀ k, k < n → tl (6 * c + k) = tl2 (6 * c + k)) (hs : s < 2 ^ n - 1) (hk : k < n) : q_tw tl T s k = q_tw tl2 T s k := by
  unfold q_tw
  rw [ht (oN s) (ones_n n hn s hs) k hk]
theorem fl_same {tl tl2 : Nat → Int32} {n s : Nat} (hn : n ≤ 6) (ht : ∀ c, c < n → ∀ k, k < n → tl (6 * c + k) = tl2 (6 * c + k)) (hs : s < 2 ^ n - 1) : ∀ (r j : Nat) (lst : Nat → Int32), j + r ≤ n → lp (k_fl tl s) j r lst = lp (k_fl tl2 s) j r lst
  | 0, j, lst, _ => rfl
  | r + 1, j, lst, h => by
    rw [lp, lp]
    have e : k_fl tl s j lst = k_fl tl2 s j lst := by
      unfold k_fl
      rw [tw_same hn ht hs (by omega)]
    rw [e]
    exact fl_same hn ht hs r (j + 1) _ (by omega)
theorem out_same {tl tl2 : Nat → Int32} {n : Nat} (hn : n ≤ 6) (ht : ∀ c, c < n → ∀ k, k < n → tl (6 * c + k) = tl2 (6 * c + k)) : ∀ (m : Nat) (lst : Nat → Int32), m ≤ 2 ^ n - 1 → h_out tl n m lst = h_out tl2 n m lst
  | 0, lst, _ => rfl
  | s + 1, lst, h => by
    rw [h_out, h_out, h_fl, h_fl, fl_same hn ht (by omega) n 0 _ (by omega)]
    exact out_same hn ht s _ (by omega)
theorem fb_same {tl tl2 lst : Nat → Int32} {n s : Nat} (hn : n ≤ 6) (ht : ∀ c, c < n → ∀ k, k < n → tl (6 * c + k) = tl2 (6 * c + k)) (hs : s < 2 ^ n - 1) : q_fb tl lst n s = q_fb tl2 lst n s := by
  have key : ∀ r k, k + r = n → fbF tl lst s r k = fbF tl2 lst s r k := by
    intro r
    induction r with
    | zero => intro k _; rfl
    | succ r ih =>
      intro k hk
      rw [fbF, fbF, tw_same hn ht hs (by omega), ih (k + 1) (by omega)]
  exact key n 0 (by omega)
theorem path2 {tl tl2 lst T C : Nat → Int32} {n man : Nat} {jar : Int32} (hn : n ≤ 6) (ht : ∀ c, c < n → ∀ k, k < n → tl2 (6 * c + k) = tl (6 * c + k)) (ha : ∀ y, y ≤ 2 ^ n - 1 → lst y = T y) (hc : ∀ y, y < 2 ^ n - 1 → ¬ T y = -1 → c_ok tl T C n y) : ∀ (r i x : Nat) (row row2 : Nat → Int32), i + r = n → p_ok T n i x → agr row row2 → agr (lp (k_st tl2 lst n man jar) i r (x, row)).2 (lp (k_rs C man jar) i r (x, row2)).2
  | 0, i, x, row, row2, _, _, h => h
  | r + 1, i, x, row, row2, h, hp, hr => by
    obtain ⟨f1, f2, f3, f4, f5⟩ := p_step hn (by omega) ha hc hp
    have hlt : x < 2 ^ n - 1 := by
      by_cases e : x = 2 ^ n - 1
      · have := hp.2.1
        rw [e, ones_all n hn] at this
        omega
      · have := hp.1
        omega
    have hfb : q_fb tl2 lst n x = q_fb tl lst n x := fb_same hn ht hlt
    rw [lp, lp]
    have e1 : k_st tl2 lst n man jar i (x, row) = (x ||| 2 ^ q_fb tl lst n x, upd row (man + i) (jar + nI (q_fb tl lst n x))) := by
      unfold k_st
      dsimp only
      rw [hfb]
    have e2 : k_rs C man jar i (x, row2) = (x ||| 2 ^ q_fb tl lst n x, upd row2 (man + i) (jar + nI (q_fb tl lst n x))) := by
      unfold k_rs
      dsimp only
      rw [f4, f1]
    rw [e1, e2]
    refine path2 hn ht ha hc r (i + 1) _ _ _ (by omega) f5 (fun y hy => ?_)
    unfold upd
    split
    · rfl
    · exact hr y hy
theorem Cx.ways {nf nj nm e0 : Nat} {B : Int} {σ : rS} {κ : cS} (h : Cx nf nj nm e0 B σ κ) : wayok σ nm nj := by
  intro m hm j hj
  obtain ⟨w1, w2, w3, w4⟩ := way_eq h hm hj
  rw [w1, w2]
  omega
theorem s_give {c : Int} {nf nj nm : Nat} {σ : rS} {κ : cS} (h : S c nf nj nm σ κ) {man jar n : Nat} (hn0 : 0 < n) (hn : n ≤ 6) (hm : man + n ≤ nm) (hj : jar + n ≤ nj) : (g_give κ man jar n).1 = (f_give2 σ man jar n).1 ∧ S (c + 1) nf nj nm (f_give2 σ man jar n).2 (g_give κ man jar n).2 := by
  have hb := h.1.2.2.1.1
  have ht : ∀ c, c < n → ∀ k, k < n → h_tl κ man jar n (6 * c + k) = r_tl σ man jar (6 * c + k) := fun c hc k hk => tl_same h.1 hn hm hj hc hk
  have hls : h_ls κ man jar n = h_least (r_tl σ man jar) (κ.1.2.1 39) n := by
    unfold h_ls h_least
    exact out_same hn ht _ _ (Nat.le_refl _)
  obtain ⟨t1, t2⟩ := tab_ok h.1.ways hn hn0 hm hj (κ.1.2.1 39)
  rw [← hls] at t1
  have h0 := t1 0 (Nat.zero_le _)
  have hcond : h_ls κ man jar n 0 = -1 ↔ (rr_tab σ man jar n).1 0 < 0 := by
    rw [h0.1, Int32.lt_iff_toInt_lt, t_0]
    constructor
    · intro q
      rw [q, m1]
      omega
    · intro q
      by_cases q2 : (rr_tab σ man jar n).1 0 = -1
      · exact q2
      · have := (ne_m1 h0.2).mp q2
        omega
  unfold g_give f_give2
  have h9 := h.up
  by_cases hq : h_ls κ man jar n 0 = -1
  · rw [if_pos hq, if_pos (hcond.mp hq)]
    obtain ⟨⟨hE, hN, hI, hA, hB, hC, hD, hEe, hF, hG, hH, hIi, hJ, hK, hL⟩, hO⟩ := h
    exact ⟨rfl, ⟨(((hE.l 38 _ rfl).l 39 _ rfl).r 38 _ rfl).r 39 _ rfl, hN, hI, hA, hB, hC, hD, hEe, hF, hG, h9.1.2.2.2.2.2.2.2.2.2.2.1, hIi, hJ, hK, hL⟩, hO⟩
  · rw [if_neg hq, if_neg (fun q => hq (hcond.mpr q))]
    have hp0 : p_ok (rr_tab σ man jar n).1 n 0 0 := ⟨Nat.zero_le _, by decide +kernel, fun q => hq (h0.1.trans q)⟩
    have hpath := path2 (man := man) (jar := nI jar) hn ht (fun y hy => (t1 y hy).1) t2 n 0 0 (lp (k_put (-4)) 0 10 (κ.1.2.1 40)) (lp (k_put (-4)) 0 10 (σ.2.1 40)) (by omega) hp0 (fun y hy => by rw [(put_all (R := σ.2.1 40) 10 0 (κ.1.2.1 40) y).1 (by omega), (put_all (R := σ.2.1 40) 10 0 (σ.2.1 40) y).1 (by omega)])
    obtain ⟨⟨hE, hN, hI, hA, hB, hC, hD, hEe, hF, hG, hH, hIi, hJ, hK, hL⟩, hO⟩ := h
    refine ⟨h0.1, ⟨(((((hE.l 38 _ rfl).l 39 _ rfl).l 40 _ rfl).r 38 _ rfl).r 39 _ rfl).r 40 _ rfl, hN, hI, hA, hB, hC, hD, hEe, hF, hG, h9.1.2.2.2.2.2.2.2.2.2.2.1, hIi, fun k hk => ⟨(hJ k hk).1, ?_⟩, hK, hL⟩, hO⟩
    exact hpath k hk
