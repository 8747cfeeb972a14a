/-! ===== giving: one table ===== -/
/-- the reference's step, over the class's table of toils -/
def k_rg (tl : Nat → Int32) (s k : Nat) (x : (Nat → Int32) × (Nat → Int32)) : (Nat → Int32) × (Nat → Int32) := if ¬ q_tw tl x.1 s k = -1 ∧ (x.1 s < 0 ∨ q_tw tl x.1 s k ≤ x.1 s) then (upd x.1 s (q_tw tl x.1 s k), upd x.2 s (nI k)) else x
def ri_in (tl : Nat → Int32) (s : Nat) : Nat → (Nat → Int32) × (Nat → Int32) → (Nat → Int32) × (Nat → Int32)
  | 0, x => x
  | k + 1, x => ri_in tl s k (k_rg tl s k x)
def r_out (tl : Nat → Int32) (n : Nat) : Nat → (Nat → Int32) × (Nat → Int32) → (Nat → Int32) × (Nat → Int32)
  | 0, x => x
  | s + 1, x => r_out tl n s (ri_in tl s n (upd x.1 s (-1), x.2))
def tlok (tl : Nat → Int32) (n : Nat) : Prop := ∀ c, c < n → ∀ k, k < n → -1 ≤ (tl (6 * c + k)).toInt ∧ (tl (6 * c + k)).toInt ≤ 200
theorem ones_n : ∀ n, n ≤ 6 → ∀ s, s < 2 ^ n - 1 → oN s < n := by decide +kernel
theorem ones_all : ∀ n, n ≤ 6 → oN (2 ^ n - 1) = n := by decide +kernel
theorem ones_or : ∀ k, k < 6 → ∀ s, s < 64 → (s ||| 2 ^ k) ≠ s → oN (s ||| 2 ^ k) = oN s + 1 ∧ s < (s ||| 2 ^ k) := by decide +kernel
theorem or_le : ∀ n, n ≤ 6 → ∀ k, k < n → ∀ s, s < 64 → s ≤ 2 ^ n - 1 → (s ||| 2 ^ k) ≤ 2 ^ n - 1 := by decide +kernel
theorem m1 : (-1 : Int32).toInt = -1 := by decide
theorem ne_m1 {x : Int32} (h : -1 ≤ x.toInt) : ¬ x = -1 ↔ 0 ≤ x.toInt := by
  constructor
  · intro h2
    have := ne_toInt h2
    rw [m1] at this
    omega
  · intro h2 e
    rw [e, m1] at h2
    omega
/-- a value's range -/
theorem tw_rng {tl T : Nat → Int32} {n s k : Nat} {b : Int} (hn : n ≤ 6) (ht : tlok tl n) (hs : s < 2 ^ n - 1) (hk : k < n) (hb : 0 ≤ b ∧ b ≤ 100000) (hT : ∀ x, s < x → x ≤ 2 ^ n - 1 → -1 ≤ (T x).toInt ∧ (T x).toInt ≤ b) : -1 ≤ (q_tw tl T s k).toInt ∧ (q_tw tl T s k).toInt ≤ b + 200 := by
  have h64 : 2 ^ n - 1 < 64 := (all_eq n hn).2.1
  unfold q_tw
  split
  · rw [m1]; omega
  · next h1 =>
    split
    · rw [m1]; omega
    · next h2 =>
      have hne : (s ||| 2 ^ k) ≠ s := fun e => h1 (Or.inl e)
      have hlt := (ones_or k (by omega) s (by omega) hne).2
      have hle := or_le n hn k hk s (by omega) (by omega)
      have h3 := hT _ hlt hle
      have h4 := ht (oN s) (ones_n n hn s hs) k hk
      have h5 := (ne_m1 h4.1).mp (fun e => h2 (Or.inl e))
      have h6 := (ne_m1 h3.1).mp (fun e => h2 (Or.inr e))
      rw [fb_addI (by omega) (by omega)]
      omega
/-- a value doesn't look at its own place -/
theorem tw_upd {tl T : Nat → Int32} {s k : Nat} {v : Int32} : q_tw tl (upd T s v) s k = q_tw tl T s k := by
  unfold q_tw
  split
  · rfl
  · next h =>
    have : upd T s v (s ||| 2 ^ k) = T (s ||| 2 ^ k) := by
      simp only [upd]
      rw [if_neg (fun e => h (Or.inl e))]
    rw [this]
theorem tw_congr {tl T T2 : Nat → Int32} {n s k : Nat} (hn : n ≤ 6) (hs : s < 2 ^ n - 1) (hk : k < n) (h : ∀ x, s < x → x ≤ 2 ^ n - 1 → T x = T2 x) : q_tw tl T s k = q_tw tl T2 s k := by
  have h64 : 2 ^ n - 1 < 64 := (all_eq n hn).2.1
  unfold q_tw
  split
  · rfl
  · next h1 =>
    have hne : (s ||| 2 ^ k) ≠ s := fun e => h1 (Or.inl e)
    rw [h _ (ones_or k (by omega) s (by omega) hne).2 (or_le n hn k hk s (by omega) (by omega))]
theorem upd_upd {f : Nat → Int32} {s : Nat} {a b : Int32} : upd (upd f s a) s b = upd f s b := by
  funext i
  simp only [upd]
  split <;> rfl
theorem upd_at {f : Nat → Int32} {s : Nat} {a : Int32} : upd f s a s = a := by simp [upd]
theorem upd_ne {f : Nat → Int32} {s i : Nat} {a : Int32} (h : i ≠ s) : upd f s a i = f i := by simp [upd, h]
/-- what the least of some values is -/
def lst_ok (v : Nat → Int32) (a b : Nat) (L : Int32) : Prop := (L = -1 ∧ ∀ k, a ≤ k → k < b → v k = -1) ∨ (0 ≤ L.toInt ∧ (∃ k, a ≤ k ∧ k < b ∧ v k = L) ∧ ∀ k, a ≤ k → k < b → ¬ v k = -1 → L.toInt ≤ (v k).toInt)
theorem lst_uniq {v : Nat → Int32} {a b : Nat} {L L2 : Int32} (h : lst_ok v a b L) (h2 : lst_ok v a b L2) : L = L2 := by
  rcases h with ⟨e, h⟩ | ⟨h0, ⟨k, k1, k2, k3⟩, h⟩
  · rcases h2 with ⟨e2, _⟩ | ⟨g0, ⟨j, j1, j2, j3⟩, _⟩
    · rw [e, e2]
    · have := h j j1 j2
      rw [j3] at this
      rw [this, m1] at g0
      omega
  · rcases h2 with ⟨e2, g⟩ | ⟨g0, ⟨j, j1, j2, j3⟩, g⟩
    · have := g k k1 k2
      rw [k3] at this
      rw [this, m1] at h0
      omega
    · have a1 := h j j1 j2 (by rw [j3]; intro e; rw [e, m1] at g0; omega)
      have a2 := g k k1 k2 (by rw [k3]; intro e; rw [e, m1] at h0; omega)
      rw [j3] at a1
      rw [k3] at a2
      exact Int32.toInt_inj.mp (by omega)
/-- the class's row of choices -/
theorem fl_ok {tl : Nat → Int32} {s n : Nat} {T : Nat → Int32} (hr : ∀ k, k < n → -1 ≤ (q_tw tl T s k).toInt) : ∀ (r j : Nat) (L : Int32), j + r ≤ n → lst_ok (q_tw tl T s) 0 j L → ∃ L2, lp (k_fl tl s) j r (upd T s L) = upd T s L2 ∧ lst_ok (q_tw tl T s) 0 (j + r) L2
  | 0, j, L, _, h => ⟨L, rfl, h⟩
  | r + 1, j, L, hj, h => by
    rw [lp]
    have hv := hr j (by omega)
    have hstep : ∃ L3, k_fl tl s j (upd T s L) = upd T s L3 ∧ lst_ok (q_tw tl T s) 0 (j + 1) L3 := by
      unfold k_fl
      rw [tw_upd, upd_at, upd_upd]
      split
      · next hc =>
        refine ⟨_, rfl, Or.inr ⟨(ne_m1 hv).mp hc.1, ⟨j, by omega, by omega, rfl⟩, fun k _ hk hk1 => ?_⟩⟩
        by_cases e : k = j
        · rw [e]; exact Int.le_refl _
        · rcases h with ⟨e1, h⟩ | ⟨h0, -, h⟩
          · exact absurd (h k (by omega) (by omega)) hk1
          · have h9 := h k (by omega) (by omega) hk1
            rcases hc.2 with h8 | h8
            · rw [h8, m1] at h0; omega
            · rw [Int32.lt_iff_toInt_lt] at h8; omega
      · next hc =>
        refine ⟨L, rfl, ?_⟩
        rcases h with ⟨e1, h⟩ | ⟨h0, ⟨c, c1, c2, c3⟩, h⟩
        · refine Or.inl ⟨e1, fun k k1 k2 => ?_⟩
          by_cases e : k = j
          · rw [e]
            by_cases e2 : q_tw tl T s j = -1
            · exact e2
            · exact absurd ⟨e2, Or.inl e1⟩ hc
          · exact h k k1 (by omega)
        · refine Or.inr ⟨h0, ⟨c, c1, by omega, c3⟩, fun k k1 k2 k3 => ?_⟩
          by_cases e : k = j
          · subst e
            have : ¬ q_tw tl T s k < L := fun q => hc ⟨k3, Or.inr q⟩
            rw [Int32.lt_iff_toInt_lt] at this
            omega
          · exact h k k1 (by omega) k3
    obtain ⟨L3, e3, h3⟩ := hstep
    rw [e3]
    obtain ⟨L2, e2, h2⟩ := fl_ok hr r (j + 1) L3 (by omega) h3
    exact ⟨L2, e2, by rw [show j + (r + 1) = j + 1 + r by omega]; exact h2⟩
/-- the reference's row of choices -/
theorem rg_ok {tl : Nat → Int32} {s n : Nat} {T C : Nat → Int32} (hr : ∀ k, k < n → -1 ≤ (q_tw tl T s k).toInt) : ∀ (j : Nat) (L : Int32) (C0 : Nat → Int32), j ≤ n → lst_ok (q_tw tl T s) j n L → (¬ L = -1 → ∃ c, j ≤ c ∧ c < n ∧ C0 = upd C s (nI c) ∧ q_tw tl T s c = L ∧ ∀ k, j ≤ k → k < c → ¬ q_tw tl T s k = L) → (L = -1 → C0 = C) →
    ∃ L2 C2, ri_in tl s j (upd T s L, C0) = (upd T s L2, C2) ∧ lst_ok (q_tw tl T s) 0 n L2 ∧ (¬ L2 = -1 → ∃ c, c < n ∧ C2 = upd C s (nI c) ∧ q_tw tl T s c = L2 ∧ ∀ k, k < c → ¬ q_tw tl T s k = L2) ∧ (L2 = -1 → C2 = C)
  | 0, L, C0, _, h, hc, hc1 => ⟨L, C0, rfl, h, fun q => by obtain ⟨c, c1, c2, c3, c4, c5⟩ := hc q; exact ⟨c, c2, c3, c4, fun k hk => c5 k (by omega) hk⟩, hc1⟩
  | j + 1, L, C0, hj, h, hcc, hcc1 => by
    rw [ri_in]
    have hv := hr j (by omega)
    have hstep : ∃ L3 C3, k_rg tl s j (upd T s L, C0) = (upd T s L3, C3) ∧ lst_ok (q_tw tl T s) j n L3 ∧ (¬ L3 = -1 → ∃ c, j ≤ c ∧ c < n ∧ C3 = upd C s (nI c) ∧ q_tw tl T s c = L3 ∧ ∀ k, j ≤ k → k < c → ¬ q_tw tl T s k = L3) ∧ (L3 = -1 → C3 = C) := by
      unfold k_rg
      simp only [tw_upd, upd_at, upd_upd]
      split
      · next hc =>
        refine ⟨_, _, rfl, Or.inr ⟨(ne_m1 hv).mp hc.1, ⟨j, by omega, by omega, rfl⟩, fun k k1 hk hk1 => ?_⟩, fun _ => ⟨j, by omega, by omega, ?_, rfl, fun k k1 k2 => by omega⟩, fun q => absurd q hc.1⟩
        · by_cases e : k = j
          · rw [e]; exact Int.le_refl _
          · rcases h with ⟨e1, h⟩ | ⟨h0, -, h⟩
            · exact absurd (h k (by omega) (by omega)) hk1
            · have h9 := h k (by omega) (by omega) hk1
              rcases hc.2 with h8 | h8
              · rw [Int32.lt_iff_toInt_lt, t_0] at h8; omega
              · rw [Int32.le_iff_toInt_le] at h8; omega
        · by_cases e : L = -1
          · rw [hcc1 e]
          · obtain ⟨c, c1, c2, c3, -⟩ := hcc e
            rw [c3, upd_upd]
      · next hc =>
        refine ⟨L, C0, rfl, ?_, ?_, hcc1⟩
        · rcases h with ⟨e1, h⟩ | ⟨h0, ⟨c, c1, c2, c3⟩, h⟩
          · refine Or.inl ⟨e1, fun k k1 k2 => ?_⟩
            by_cases e : k = j
            · rw [e]
              by_cases e2 : q_tw tl T s j = -1
              · exact e2
              · exact absurd ⟨e2, Or.inl (by rw [e1]; decide)⟩ hc
            · exact h k (by omega) k2
          · refine Or.inr ⟨h0, ⟨c, by omega, c2, c3⟩, fun k k1 k2 k3 => ?_⟩
            by_cases e : k = j
            · subst e
              have : ¬ q_tw tl T s k ≤ L := fun q => hc ⟨k3, Or.inr q⟩
              rw [Int32.le_iff_toInt_le] at this
              omega
            · exact h k (by omega) k2 k3
        · intro q
          obtain ⟨c, c1, c2, c3, c4, c5⟩ := hcc q
          refine ⟨c, by omega, c2, c3, c4, fun k k1 k2 => ?_⟩
          by_cases e : k = j
          · subst e
            intro e9
            refine hc ⟨by rw [e9]; exact q, Or.inr ?_⟩
            rw [e9]
            exact Int32.le_refl _
          · exact c5 k (by omega) k2
    obtain ⟨L3, C3, e3, h3, g3, i3⟩ := hstep
    rw [e3]
    exact rg_ok hr j L3 C3 (by omega) h3 g3 i3
theorem fl_n {tl T : Nat → Int32} {s n : Nat} (hn : n ≤ 6) (hr : ∀ k, k < n → -1 ≤ (q_tw tl T s k).toInt) : ∃ L2, lp (k_fl tl s) 0 n (upd T s (-1)) = upd T s L2 ∧ lst_ok (q_tw tl T s) 0 n L2 := by
  have h := fl_ok (tl := tl) (s := s) (T := T) hr n 0 (-1) (by omega) (Or.inl ⟨rfl, fun k _ hk => absurd hk (by omega)⟩)
  rw [Nat.zero_add] at h
  exact h
theorem rg_n {tl T C : Nat → Int32} {s n : Nat} (hn : n ≤ 6) (hr : ∀ k, k < n → -1 ≤ (q_tw tl T s k).toInt) : ∃ L2 C2, ri_in tl s n (upd T s (-1), C) = (upd T s L2, C2) ∧ lst_ok (q_tw tl T s) 0 n L2 ∧ (¬ L2 = -1 → ∃ c, c < n ∧ C2 = upd C s (nI c) ∧ q_tw tl T s c = L2 ∧ ∀ k, k < c → ¬ q_tw tl T s k = L2) ∧ (L2 = -1 → C2 = C) :=
  rg_ok hr n (-1) C (Nat.le_refl _) (Or.inl ⟨rfl, fun k h1 h2 => absurd h2 (by omega)⟩) (fun q => absurd rfl q) (fun _ => rfl)
def c_ok (tl T C : Nat → Int32) (n x : Nat) : Prop := ∃ c, c < n ∧ C x = nI c ∧ q_tw tl T x c = T x ∧ ∀ k, k < c → ¬ q_tw tl T x k = T x
theorem dp {tl : Nat → Int32} {n : Nat} (hn : n ≤ 6) (hn0 : 0 < n) (ht : tlok tl n) : ∀ (m : Nat) (lst T C : Nat → Int32), m ≤ 2 ^ n - 1 → (∀ x, m ≤ x → x ≤ 2 ^ n - 1 → lst x = T x ∧ -1 ≤ (T x).toInt ∧ (T x).toInt ≤ 200 * ((2 ^ n - 1 : Nat) - m : Int)) → (∀ x, m ≤ x → x < 2 ^ n - 1 → ¬ T x = -1 → c_ok tl T C n x) →
    (∀ x, x ≤ 2 ^ n - 1 → h_out tl n m lst x = (r_out tl n m (T, C)).1 x ∧ -1 ≤ ((r_out tl n m (T, C)).1 x).toInt) ∧ (∀ x, x < 2 ^ n - 1 → ¬ (r_out tl n m (T, C)).1 x = -1 → c_ok tl (r_out tl n m (T, C)).1 (r_out tl n m (T, C)).2 n x)
  | 0, lst, T, C, hm, h1, h2 => ⟨fun x hx => ⟨(h1 x (by omega) hx).1, (h1 x (by omega) hx).2.1⟩, fun x hx hn => h2 x (by omega) hx hn⟩
  | s + 1, lst, T, C, hm, h1, h2 => by
    have h64 : 2 ^ n - 1 < 64 := (all_eq n hn).2.1
    rw [h_out, r_out]
    have hb : 0 ≤ 200 * ((2 ^ n - 1 : Nat) - (s + 1 : Nat) : Int) ∧ 200 * ((2 ^ n - 1 : Nat) - (s + 1 : Nat) : Int) ≤ 100000 := by omega
    have hT1 : ∀ x, s < x → x ≤ 2 ^ n - 1 → -1 ≤ (T x).toInt ∧ (T x).toInt ≤ 200 * ((2 ^ n - 1 : Nat) - (s + 1 : Nat) : Int) := fun x hx hx2 => (h1 x (by omega) hx2).2
    have hL1 : ∀ x, s < x → x ≤ 2 ^ n - 1 → -1 ≤ (lst x).toInt ∧ (lst x).toInt ≤ 200 * ((2 ^ n - 1 : Nat) - (s + 1 : Nat) : Int) := fun x hx hx2 => by rw [(h1 x (by omega) hx2).1]; exact hT1 x hx hx2
    have hrT : ∀ k, k < n → -1 ≤ (q_tw tl T s k).toInt ∧ (q_tw tl T s k).toInt ≤ 200 * ((2 ^ n - 1 : Nat) - (s + 1 : Nat) : Int) + 200 := fun k hk => tw_rng hn ht (by omega) hk hb hT1
    have heq : ∀ k, k < n → q_tw tl lst s k = q_tw tl T s k := fun k hk => tw_congr hn (by omega) hk (fun x hx hx2 => (h1 x (by omega) hx2).1)
    obtain ⟨LA, eA, oA⟩ := fl_n (T := lst) hn (fun k hk => by rw [heq k hk]; exact (hrT k hk).1)
    obtain ⟨LB, C2, eB, oB, cB, dB⟩ := rg_n (T := T) (C := C) hn (fun k hk => (hrT k hk).1)
    have hAB : LA = LB := by
      refine lst_uniq (v := q_tw tl T s) (a := 0) (b := n) ?_ oB
      rcases oA with ⟨e, h⟩ | ⟨h0, ⟨k, k1, k2, k3⟩, h⟩
      · exact Or.inl ⟨e, fun k k1 k2 => by rw [← heq k k2]; exact h k k1 k2⟩
      · exact Or.inr ⟨h0, ⟨k, k1, k2, by rw [← heq k k2]; exact k3⟩, fun j j1 j2 j3 => by rw [← heq j j2]; exact h j j1 j2 (by rw [heq j j2]; exact j3)⟩
    subst hAB
    have hLr : -1 ≤ LA.toInt ∧ LA.toInt ≤ 200 * ((2 ^ n - 1 : Nat) - (s : Nat) : Int) := by
      rcases oB with ⟨e, -⟩ | ⟨h0, ⟨k, k1, k2, k3⟩, -⟩
      · rw [e, m1]; omega
      · have := hrT k k2
        rw [k3] at this
        omega
    rw [h_fl, eA, eB]
    refine dp hn hn0 ht s _ _ _ (by omega) (fun x hx hx2 => ?_) (fun x hx hx2 hx3 => ?_)
    · by_cases e : x = s
      · rw [e, upd_at, upd_at]
        exact ⟨rfl, hLr⟩
      · rw [upd_ne e, upd_ne e]
        have h9 := h1 x (by omega) hx2
        exact ⟨h9.1, h9.2.1, by omega⟩
    · by_cases e : x = s
      · rw [e, upd_at] at hx3
        obtain ⟨c, c1, c2, c3, c4⟩ := cB hx3
        rw [e]
        refine ⟨c, c1, by rw [c2, upd_at], by rw [tw_upd, upd_at]; exact c3, fun k hk => by rw [tw_upd, upd_at]; exact c4 k hk⟩
      · rw [upd_ne e] at hx3
        obtain ⟨c, c1, c2, c3, c4⟩ := h2 x (by omega) hx2 hx3
        have hCx : C2 x = C x := by
          by_cases q : LA = -1
          · rw [dB q]
          · obtain ⟨d, d1, d2, -⟩ := cB q
            rw [d2, upd_ne e]
        have htw : ∀ k, k < n → q_tw tl (upd T s LA) x k = q_tw tl T x k := fun k hk => tw_congr hn hx2 hk (fun y hy hy2 => upd_ne (by omega))
        refine ⟨c, c1, by rw [hCx]; exact c2, by rw [htw c c1, upd_ne e]; exact c3, fun k hk => by rw [htw k (by omega), upd_ne e]; exact c4 k hk⟩
