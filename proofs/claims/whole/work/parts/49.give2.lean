/-! ===== giving: the reference's table, the path ===== -/
abbrev rT : Type := (Nat → Int32) × (Nat → Int32)
def q_wsum (σ : rS) (m j : Nat) (r : Int32) : Int32 := r + q_way σ (nI m) (nI j) 1 + q_way σ (nI m) (nI j) 0
def q_rcan (σ : rS) (m j : Nat) : Bool := q_canGo σ (rg σ 13 (nI m)) (nI j)
def k_rr (σ : rS) (man jar s k : Nat) (x : rT) : rT := if ((¬ (s ||| 2 ^ k) = s ∧ 0 ≤ x.1 (s ||| 2 ^ k)) ∧ q_rcan σ (man + oN s) (jar + k) = true) ∧ (x.1 s < 0 ∨ q_wsum σ (man + oN s) (jar + k) (x.1 (s ||| 2 ^ k)) ≤ x.1 s) then (upd x.1 s (q_wsum σ (man + oN s) (jar + k) (x.1 (s ||| 2 ^ k))), upd x.2 s (nI k)) else x
def rr_in (σ : rS) (man jar s : Nat) : Nat → rT → rT
  | 0, x => x
  | k + 1, x => rr_in σ man jar s k (k_rr σ man jar s k x)
def rr_out (σ : rS) (man jar n : Nat) : Nat → rT → rT
  | 0, x => x
  | s + 1, x => rr_out σ man jar n s (rr_in σ man jar s n (upd x.1 s (-1), x.2))
def rr_tab (σ : rS) (man jar n : Nat) : rT := rr_out σ man jar n (2 ^ n - 1) (upd (σ.2.1 38) (2 ^ n - 1) 0, σ.2.1 39)
def r_tl (σ : rS) (man jar x : Nat) : Int32 := if q_rcan σ (man + x / 6) (jar + x % 6) = true then q_way σ (nI (man + x / 6)) (nI (jar + x % 6)) 1 + q_way σ (nI (man + x / 6)) (nI (jar + x % 6)) 0 else -1
def wayok (σ : rS) (nm nj : Nat) : Prop := ∀ m, m < nm → ∀ j, j < nj → (0 ≤ (q_way σ (nI m) (nI j) 1).toInt ∧ (q_way σ (nI m) (nI j) 1).toInt ≤ 100) ∧ (0 ≤ (q_way σ (nI m) (nI j) 0).toInt ∧ (q_way σ (nI m) (nI j) 0).toInt ≤ 100)
theorem tl_at {σ : rS} {man jar c k : Nat} (hk : k < 6) : r_tl σ man jar (6 * c + k) = if q_rcan σ (man + c) (jar + k) = true then q_way σ (nI (man + c)) (nI (jar + k)) 1 + q_way σ (nI (man + c)) (nI (jar + k)) 0 else -1 := by
  unfold r_tl
  rw [show (6 * c + k) / 6 = c by omega, show (6 * c + k) % 6 = k by omega]
theorem wsum0 {σ : rS} {nm nj m j : Nat} (hw : wayok σ nm nj) (hm : m < nm) (hj : j < nj) : 0 ≤ (q_way σ (nI m) (nI j) 1 + q_way σ (nI m) (nI j) 0).toInt ∧ (q_way σ (nI m) (nI j) 1 + q_way σ (nI m) (nI j) 0).toInt ≤ 200 := by
  have h := hw m hm j hj
  rw [fb_addI (by omega) (by omega)]
  omega
theorem tl_ok {σ : rS} {nm nj man jar n : Nat} (hw : wayok σ nm nj) (hn : n ≤ 6) (hm : man + n ≤ nm) (hj : jar + n ≤ nj) : tlok (r_tl σ man jar) n := by
  intro c hc k hk
  rw [tl_at (by omega)]
  split
  · have := wsum0 hw (m := man + c) (j := jar + k) (by omega) (by omega)
    omega
  · rw [m1]
    omega
/-- one step: the reference's own words, and the table's -/
theorem rr_eq {σ : rS} {nm nj man jar n s k : Nat} {T C : Nat → Int32} {L : Int32} {b : Int} (hw : wayok σ nm nj) (hn : n ≤ 6) (hm : man + n ≤ nm) (hj : jar + n ≤ nj) (hs : s < 2 ^ n - 1) (hk : k < n) (hb : 0 ≤ b ∧ b ≤ 100000) (hT : ∀ x, s < x → x ≤ 2 ^ n - 1 → -1 ≤ (T x).toInt ∧ (T x).toInt ≤ b) : k_rr σ man jar s k (upd T s L, C) = k_rg (r_tl σ man jar) s k (upd T s L, C) := by
  have h64 : 2 ^ n - 1 < 64 := (all_eq n hn).2.1
  have hon := ones_n n hn s hs
  unfold k_rr k_rg
  simp only [tw_upd, upd_at, upd_upd]
  by_cases hbit : (s ||| 2 ^ k) = s
  · rw [if_neg (fun q => q.1.1.1 hbit), if_neg]
    intro q
    exact q.1 (by rw [q_tw, if_pos (Or.inl hbit)])
  · have ho := ones_or k (by omega) s (by omega) hbit
    have hle := or_le n hn k hk s (by omega) (by omega)
    have hr := hT _ ho.2 hle
    have hun : upd T s L (s ||| 2 ^ k) = T (s ||| 2 ^ k) := upd_ne hbit
    rw [hun]
    have h36 : ¬ ((s ||| 2 ^ k) = s ∨ 36 ≤ 6 * oN s + k) := by
      rintro (q | q)
      · exact hbit q
      · omega
    have hq : q_tw (r_tl σ man jar) T s k = if r_tl σ man jar (6 * oN s + k) = -1 ∨ T (s ||| 2 ^ k) = -1 then -1 else r_tl σ man jar (6 * oN s + k) + T (s ||| 2 ^ k) := by rw [q_tw, if_neg h36]
    have hws := wsum0 hw (m := man + oN s) (j := jar + k) (by omega) (by omega)
    by_cases hcan : q_rcan σ (man + oN s) (jar + k) = true
    · have htl : r_tl σ man jar (6 * oN s + k) = q_way σ (nI (man + oN s)) (nI (jar + k)) 1 + q_way σ (nI (man + oN s)) (nI (jar + k)) 0 := by rw [tl_at (by omega), if_pos hcan]
      have htn : ¬ r_tl σ man jar (6 * oN s + k) = -1 := by rw [htl]; exact (ne_m1 (by omega)).mpr hws.1
      by_cases hrest : T (s ||| 2 ^ k) = -1
      · rw [if_neg (fun q => num_no hrest q.1.1.2), if_neg]
        intro q
        exact q.1 (by rw [hq, if_pos (Or.inr hrest)])
      · have h0 := (ne_m1 hr.1).mp hrest
        have hv : q_tw (r_tl σ man jar) T s k = q_wsum σ (man + oN s) (jar + k) (T (s ||| 2 ^ k)) := by
          rw [hq, if_neg (fun q => q.elim htn hrest), htl, q_wsum, Int32.add_comm, Int32.add_assoc]
        have hne : ¬ q_wsum σ (man + oN s) (jar + k) (T (s ||| 2 ^ k)) = -1 := by
          rw [← hv, hq, if_neg (fun q => q.elim htn hrest), htl]
          refine (ne_m1 ?_).mpr ?_ <;> rw [fb_addI (by omega) (by omega)] <;> omega
        rw [hv]
        have h00 : (0 : Int32) ≤ T (s ||| 2 ^ k) := by rw [Int32.le_iff_toInt_le, t_0]; exact h0
        by_cases hc : L < 0 ∨ q_wsum σ (man + oN s) (jar + k) (T (s ||| 2 ^ k)) ≤ L
        · rw [if_pos ⟨⟨⟨hbit, h00⟩, hcan⟩, hc⟩, if_pos ⟨hne, hc⟩]
        · rw [if_neg (fun q => hc q.2), if_neg (fun q => hc q.2)]
    · have htl : r_tl σ man jar (6 * oN s + k) = -1 := by rw [tl_at (by omega), if_neg hcan]
      rw [if_neg (fun q => hcan q.1.2), if_neg]
      intro q
      exact q.1 (by rw [hq, if_pos (Or.inl htl)])
theorem rr_in_eq {σ : rS} {nm nj man jar n s : Nat} {T : Nat → Int32} {b : Int} (hw : wayok σ nm nj) (hn : n ≤ 6) (hm : man + n ≤ nm) (hj : jar + n ≤ nj) (hs : s < 2 ^ n - 1) (hb : 0 ≤ b ∧ b ≤ 100000) (hT : ∀ x, s < x → x ≤ 2 ^ n - 1 → -1 ≤ (T x).toInt ∧ (T x).toInt ≤ b) : ∀ (j : Nat) (L : Int32) (C : Nat → Int32), j ≤ n → rr_in σ man jar s j (upd T s L, C) = ri_in (r_tl σ man jar) s j (upd T s L, C)
  | 0, L, C, _ => rfl
  | j + 1, L, C, h => by
    rw [rr_in, ri_in, rr_eq hw hn hm hj hs (by omega) hb hT]
    have : ∃ L2 C2, k_rg (r_tl σ man jar) s j (upd T s L, C) = (upd T s L2, C2) := by
      unfold k_rg
      simp only [tw_upd, upd_at, upd_upd]
      split
      · exact ⟨_, _, rfl⟩
      · exact ⟨_, _, rfl⟩
    obtain ⟨L2, C2, e⟩ := this
    rw [e]
    exact rr_in_eq hw hn hm hj hs hb hT j L2 C2 (by omega)
theorem rr_out_eq {σ : rS} {nm nj man jar n : Nat} (hw : wayok σ nm nj) (hn : n ≤ 6) (hn0 : 0 < n) (hm : man + n ≤ nm) (hj : jar + n ≤ nj) : ∀ (m : Nat) (T C : Nat → Int32), m ≤ 2 ^ n - 1 → (∀ x, m ≤ x → x ≤ 2 ^ n - 1 → -1 ≤ (T x).toInt ∧ (T x).toInt ≤ 200 * ((2 ^ n - 1 : Nat) - m : Int)) → rr_out σ man jar n m (T, C) = r_out (r_tl σ man jar) n m (T, C)
  | 0, T, C, _, _ => rfl
  | s + 1, T, C, hs, h => by
    have h64 : 2 ^ n - 1 < 64 := (all_eq n hn).2.1
    have hb : 0 ≤ 200 * ((2 ^ n - 1 : Nat) - (s + 1 : Nat) : Int) ∧ 200 * ((2 ^ n - 1 : Nat) - (s + 1 : Nat) : Int) ≤ 100000 := by omega
    have hT1 : ∀ x, s < x → x ≤ 2 ^ n - 1 → -1 ≤ (T x).toInt ∧ (T x).toInt ≤ 200 * ((2 ^ n - 1 : Nat) - (s + 1 : Nat) : Int) := fun x hx hx2 => h x (by omega) hx2
    rw [rr_out, r_out]
    dsimp only
    rw [rr_in_eq hw hn hm hj (by omega) hb hT1 n (-1) C (Nat.le_refl _)]
    have hrT : ∀ k, k < n → -1 ≤ (q_tw (r_tl σ man jar) T s k).toInt ∧ (q_tw (r_tl σ man jar) T s k).toInt ≤ 200 * ((2 ^ n - 1 : Nat) - (s + 1 : Nat) : Int) + 200 := fun k hk => tw_rng hn (tl_ok hw hn hm hj) (by omega) hk hb hT1
    obtain ⟨LB, C2, eB, oB, -⟩ := rg_n (T := T) (C := C) hn (fun k hk => (hrT k hk).1)
    rw [eB]
    refine rr_out_eq hw hn hn0 hm hj s _ _ (by omega) (fun x hx hx2 => ?_)
    by_cases e : x = s
    · rw [e, upd_at]
      rcases oB with ⟨e9, -⟩ | ⟨h0, ⟨k, k1, k2, k3⟩, -⟩
      · rw [e9, m1]; omega
      · have := hrT k k2
        rw [k3] at this
        omega
    · rw [upd_ne e]
      have := h x (by omega) hx2
      omega
/-- all that giving needs of the two tables -/
theorem tab_ok {σ : rS} {nm nj man jar n : Nat} (hw : wayok σ nm nj) (hn : n ≤ 6) (hn0 : 0 < n) (hm : man + n ≤ nm) (hj : jar + n ≤ nj) (lst : Nat → Int32) :
    (∀ x, x ≤ 2 ^ n - 1 → h_least (r_tl σ man jar) lst n x = (rr_tab σ man jar n).1 x ∧ -1 ≤ ((rr_tab σ man jar n).1 x).toInt) ∧ (∀ x, x < 2 ^ n - 1 → ¬ (rr_tab σ man jar n).1 x = -1 → c_ok (r_tl σ man jar) (rr_tab σ man jar n).1 (rr_tab σ man jar n).2 n x) := by
  have h0 : ∀ x, 2 ^ n - 1 ≤ x → x ≤ 2 ^ n - 1 → -1 ≤ ((upd (σ.2.1 38) (2 ^ n - 1) 0) x).toInt ∧ ((upd (σ.2.1 38) (2 ^ n - 1) 0) x).toInt ≤ 200 * ((2 ^ n - 1 : Nat) - (2 ^ n - 1 : Nat) : Int) := by
    intro x hx hx2
    have e : x = 2 ^ n - 1 := by omega
    rw [e, upd_at, t_0]
    omega
  have e := rr_out_eq hw hn hn0 hm hj (2 ^ n - 1) (upd (σ.2.1 38) (2 ^ n - 1) 0) (σ.2.1 39) (Nat.le_refl _) h0
  unfold rr_tab h_least
  rw [e]
  refine dp hn hn0 (tl_ok hw hn hm hj) (2 ^ n - 1) _ _ _ (Nat.le_refl _) (fun x hx hx2 => ⟨?_, h0 x hx hx2⟩) (fun x hx hx2 => absurd hx2 (by omega))
  have e2 : x = 2 ^ n - 1 := by omega
  rw [e2, upd_at, upd_at]
theorem fb_eq {tl lst T C : Nat → Int32} {n x : Nat} (hn : n ≤ 6) (hx : x < 2 ^ n - 1) (ha : ∀ y, y ≤ 2 ^ n - 1 → lst y = T y) (hx1 : ¬ T x = -1) (h : c_ok tl T C n x) : C x = nI (q_fb tl lst n x) ∧ q_fb tl lst n x < n ∧ (x ||| 2 ^ q_fb tl lst n x) ≠ x ∧ ¬ T (x ||| 2 ^ q_fb tl lst n x) = -1 := by
  obtain ⟨c, c1, c2, c3, c4⟩ := h
  have htw : ∀ k, k < n → q_tw tl lst x k = q_tw tl T x k := fun k hk => tw_congr hn hx hk (fun y hy hy2 => ha y hy2)
  have key : ∀ r k, k + r = n → k ≤ c → fbF tl lst x r k = c := by
    intro r
    induction r with
    | zero => intro k hk hc; omega
    | succ r ih =>
      intro k hk hc
      rw [fbF]
      by_cases e : k = c
      · rw [if_pos, e]
        rw [htw k (by omega), ha x (by omega), e]
        exact ⟨by rw [c3]; exact hx1, c3⟩
      · rw [if_neg]
        · exact ih (k + 1) (by omega) (by omega)
        · rw [htw k (by omega), ha x (by omega)]
          exact fun q => c4 k (by omega) q.2
  have e : q_fb tl lst n x = c := key n 0 (by omega) (by omega)
  rw [e]
  refine ⟨c2, c1, ?_, ?_⟩
  · intro q
    rw [q_tw, if_pos (Or.inl q)] at c3
    exact hx1 c3.symm
  · intro q
    rw [q_tw] at c3
    split at c3
    · exact hx1 c3.symm
    · rw [if_pos (Or.inr q)] at c3
      exact hx1 c3.symm
def k_rs (C : Nat → Int32) (man : Nat) (jar : Int32) (i : Nat) (s : Nat × (Nat → Int32)) : Nat × (Nat → Int32) := (s.1 ||| 2 ^ (C s.1).toNatClampNeg, upd s.2 (man + i) (jar + C s.1))
/-- the path: where it stands after i steps -/
def p_ok (T : Nat → Int32) (n i x : Nat) : Prop := x ≤ 2 ^ n - 1 ∧ oN x = i ∧ ¬ T x = -1
theorem p_step {tl lst T C : Nat → Int32} {n i x : Nat} (hn : n ≤ 6) (hi : i < n) (ha : ∀ y, y ≤ 2 ^ n - 1 → lst y = T y) (hc : ∀ y, y < 2 ^ n - 1 → ¬ T y = -1 → c_ok tl T C n y) (h : p_ok T n i x) : C x = nI (q_fb tl lst n x) ∧ q_fb tl lst n x < n ∧ x < 64 ∧ (x ||| 2 ^ (C x).toNatClampNeg) = (x ||| 2 ^ q_fb tl lst n x) ∧ p_ok T n (i + 1) (x ||| 2 ^ q_fb tl lst n x) := by
  have h64 : 2 ^ n - 1 < 64 := (all_eq n hn).2.1
  obtain ⟨h1, h2, h3⟩ := h
  have hlt : x < 2 ^ n - 1 := by
    by_cases e : x = 2 ^ n - 1
    · rw [e, ones_all n hn] at h2
      omega
    · omega
  obtain ⟨f1, f2, f3, f4⟩ := fb_eq hn hlt ha h3 (hc x hlt h3)
  refine ⟨f1, f2, by omega, by rw [f1, nI_cl (by omega)], or_le n hn _ f2 x (by omega) h1, ?_, f4⟩
  rw [(ones_or _ (by omega) x (by omega) f3).1, h2]
theorem path_eq {tl lst T C : Nat → Int32} {n man : Nat} {jar : Int32} (hn : n ≤ 6) (ha : ∀ y, y ≤ 2 ^ n - 1 → lst y = T y) (hc : ∀ y, y < 2 ^ n - 1 → ¬ T y = -1 → c_ok tl T C n y) : ∀ (r i x : Nat) (row : Nat → Int32), i + r = n → p_ok T n i x → lp (k_st tl lst n man jar) i r (x, row) = lp (k_rs C man jar) i r (x, row)
  | 0, i, x, row, _, _ => rfl
  | r + 1, i, x, row, h, hp => by
    obtain ⟨f1, f2, f3, f4, f5⟩ := p_step hn (by omega) ha hc hp
    rw [lp, lp]
    have e : k_st tl lst n man jar i (x, row) = k_rs C man jar i (x, row) := by
      unfold k_st k_rs
      dsimp only
      rw [f4, f1]
    rw [e]
    have e2 : k_rs C man jar i (x, row) = (x ||| 2 ^ q_fb tl lst n x, (k_rs C man jar i (x, row)).2) := by
      unfold k_rs
      dsimp only
      rw [f4]
    rw [e2]
    exact path_eq hn ha hc r (i + 1) _ _ (by omega) f5
