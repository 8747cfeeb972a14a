/-! ===== the reference's methods, 8: the tape ===== -/
theorem rs_rs {σ : rS} {k : Nat} {a b : Int32} : rs (rs σ k a) k b = rs σ k b := by
  unfold rs
  congr 1
  funext j
  by_cases h : j = k <;> simp [upd, h]
theorem rs_id {σ : rS} {k : Nat} {a : Int32} (h : σ.1 k = a) : rs σ k a = σ := by
  unfold rs
  rw [← h]
  congr 1
  funext j
  by_cases h2 : j = k <;> simp [upd, h2]
theorem rs_ra {σ : rS} {k j : Nat} {a : Int32} {f : Nat → Int32} : rs (ra σ j f) k a = ra (rs σ k a) j f := rfl
theorem ra_ra {σ : rS} {k : Nat} {a b : Nat → Int32} : ra (ra σ k a) k b = ra σ k b := by
  unfold ra
  congr 2
  funext j
  by_cases h : j = k <;> simp [h]
/-- the tape's reader stands at p, the prices that are read are R -/
def tσ (σ : rS) (p : Nat) (R : Nat → Int32) : rS := ra (rs σ 32 (nI p)) 34 R
theorem tσ_at {σ : rS} {p q : Nat} {R : Nat → Int32} : rs (tσ σ p R) 32 (nI q) = tσ σ q R := by
  unfold tσ
  rw [rs_ra, rs_rs]
theorem tσ_R {σ : rS} {p : Nat} {R Q : Nat → Int32} : ra (tσ σ p R) 34 Q = tσ σ p Q := by
  unfold tσ
  rw [ra_ra]
/-- the tape: its bytes, how many -/
def tT (σ : rS) (n : Nat) : Prop := σ.1 31 = nI n ∧ n ≤ 50
def skF (T : Nat → Int32) (n : Nat) : Nat → Nat → Nat
  | 0, p => p
  | k + 1, p => if p < n ∧ T p = 32 then skF T n k (p + 1) else p
def sk (T : Nat → Int32) (n p : Nat) : Nat := skF T n (n - p) p
theorem sk_go {T : Nat → Int32} {n p : Nat} (h : p < n) (h2 : T p = 32) : sk T n p = sk T n (p + 1) := by
  unfold sk
  rw [show n - p = (n - (p + 1)) + 1 by omega, skF, if_pos ⟨h, h2⟩]
theorem sk_end {T : Nat → Int32} {n p : Nat} (h : n ≤ p ∨ ¬ T p = 32) : sk T n p = p := by
  unfold sk
  cases n - p with
  | zero => rfl
  | succ k =>
    rw [skF, if_neg]
    rintro ⟨h1, h2⟩
    rcases h with h | h
    · omega
    · exact h h2
theorem skF_le {T : Nat → Int32} {n : Nat} : ∀ (k p : Nat), p ≤ n → p ≤ skF T n k p ∧ skF T n k p ≤ n
  | 0, p, h => ⟨Nat.le_refl _, h⟩
  | k + 1, p, h => by
    rw [skF]
    split
    · next h2 =>
      have := skF_le (T := T) (n := n) k (p + 1) (by omega)
      omega
    · exact ⟨Nat.le_refl _, h⟩
theorem sk_le {T : Nat → Int32} {n p : Nat} (h : p ≤ n) : p ≤ sk T n p ∧ sk T n p ≤ n := skF_le _ _ h
def q_cur (T : Nat → Int32) (n p : Nat) : Int32 := if p < n then T p else -1
/-- digits: the place behind them, the number as it is taken up -/
def dgF (T : Nat → Int32) (n : Nat) (hi : Int32) : Nat → Nat → Int32 → Nat × Int32
  | 0, p, v => (p, v)
  | k + 1, p, v => if p < n ∧ q_in (T p) 48 57 = true then dgF T n hi k (p + 1) (if v ≤ hi then 10 * v + T p - 48 else v) else (p, v)
def dg (T : Nat → Int32) (n : Nat) (hi : Int32) (p : Nat) (v : Int32) : Nat × Int32 := dgF T n hi (n - p) p v
theorem dg_go {T : Nat → Int32} {n p : Nat} {hi v : Int32} (h : p < n) (h2 : q_in (T p) 48 57 = true) : dg T n hi p v = dg T n hi (p + 1) (if v ≤ hi then 10 * v + T p - 48 else v) := by
  unfold dg
  rw [show n - p = (n - (p + 1)) + 1 by omega, dgF, if_pos ⟨h, h2⟩]
theorem dg_end {T : Nat → Int32} {n p : Nat} {hi v : Int32} (h : n ≤ p ∨ q_in (T p) 48 57 = false) : dg T n hi p v = (p, v) := by
  unfold dg
  cases n - p with
  | zero => rfl
  | succ k =>
    rw [dgF, if_neg]
    rintro ⟨h1, h2⟩
    rcases h with h | h
    · omega
    · rw [h] at h2
      cases h2
theorem dgF_le {T : Nat → Int32} {n : Nat} {hi : Int32} : ∀ (k p : Nat) (v : Int32), p ≤ n → p ≤ (dgF T n hi k p v).1 ∧ (dgF T n hi k p v).1 ≤ n
  | 0, p, v, h => ⟨Nat.le_refl _, h⟩
  | k + 1, p, v, h => by
    rw [dgF]
    split
    · next h2 =>
      have := dgF_le (T := T) (n := n) (hi := hi) k (p + 1) (if v ≤ hi then 10 * v + T p - 48 else v) (by omega)
      omega
    · exact ⟨Nat.le_refl _, h⟩
theorem dg_le {T : Nat → Int32} {n p : Nat} {hi v : Int32} (h : p ≤ n) : p ≤ (dg T n hi p v).1 ∧ (dg T n hi p v).1 ≤ n := dgF_le _ _ _ h
def q_num (T : Nat → Int32) (n : Nat) (lo hi : Int32) (p : Nat) : Int32 × Nat :=
  if (q_cur T n (sk T n p) < 0 ∨ (dg T n hi (sk T n p) 0).1 = sk T n p) ∨ q_in (dg T n hi (sk T n p) 0).2 lo hi = false then (-1, sk T n p) else ((dg T n hi (sk T n p) 0).2, (dg T n hi (sk T n p) 0).1)
theorem q_num_le {T : Nat → Int32} {n p : Nat} {lo hi : Int32} (h : p ≤ n) : (q_num T n lo hi p).2 ≤ n := by
  unfold q_num
  have h1 := sk_le (T := T) h
  have h2 := dg_le (T := T) (hi := hi) (v := 0) h1.2
  split
  · exact h1.2
  · exact h2.2
theorem nI_le_iff {a b : Nat} (ha : a < 2147483648) (hb : b < 2147483648) : nI a ≤ nI b ↔ a ≤ b := nI_leI (by omega) (by omega)
theorem nI_eq_iff {a b : Nat} (ha : a < 2147483648) (hb : b < 2147483648) : nI a = nI b ↔ a = b := nI_eq (by omega) (by omega)
theorem nI_cl50 {p : Nat} (h : p < 1000) : (nI p).toNatClampNeg = p := nI_cl (by omega)
set_option maxRecDepth 100000 in
set_option maxHeartbeats 4000000 in
theorem r_next {l : Launch} {g : ab_G} {M : ab_M} {a0 : Nat} {ρ : Nat → Nat} {σ : rS} {n p0 : Nat} {R : Nat → Int32} (hR : RR g M a0 ρ (tσ σ p0 R)) (hT : tT σ n) (hp : p0 ≤ n) : AM l g Y_X9_next 0 0 0 0 [.ref a0] M (ab_Qi (fun x M' => x = q_cur (σ.2.1 30) n (sk (σ.2.1 30) n p0) ∧ RR g M' a0 ρ (tσ σ (sk (σ.2.1 30) n p0) R) ∧ KR M M')) := by
  refine AM.of [some (.ref a0)] (by decide +kernel) (Nat.le_of_ble_eq_true rfl) rfl ?_
  obtain ⟨h31, hn50⟩ := hT
  have key : ∀ (k p : Nat) (M9 : ab_M), n - p = k → p ≤ n → sk (σ.2.1 30) n p = sk (σ.2.1 30) n p0 → RR g M9 a0 ρ (tσ σ p R) → KR M M9 → AW l g ab_X0 (ab_Z g (ab_Qi (fun x M' => x = q_cur (σ.2.1 30) n (sk (σ.2.1 30) n p0) ∧ RR g M' a0 ρ (tσ σ (sk (σ.2.1 30) n p0) R) ∧ KR M M'))) Y_X9_next 0 0 0 0 0 [some (.ref a0)] [] M9 := by
    intro k
    induction k with
    | zero =>
      intro p M9 hk hp hs hR hK
      have e : p = n := by omega
      have hs2 : sk (σ.2.1 30) n p0 = p := by rw [← hs]; exact sk_end (Or.inl (by omega))
      rw [hs2]
      refine aw_aload_n dX9_next_0 rfl ?_
      refine aw_get dX9_next_1 fg_X9_154_10 hR.1 rfl ?_
      refine aw_aload_n dX9_next_4 rfl ?_
      refine aw_get dX9_next_5 fg_X9_151_10 hR.1 rfl ?_
      refine aw_icmp_ge (tgt := 38) dX9_next_8 (by decide) (fun h8 => ?_) (fun h8 => absurd (show σ.1 31 ≤ nI p by rw [h31, e]; exact Int32.le_refl _) h8)
      refine aw_aload_n dX9_next_38 rfl ?_
      refine aw_get dX9_next_39 fg_X9_154_10 hR.1 rfl ?_
      refine aw_aload_n dX9_next_42 rfl ?_
      refine aw_get dX9_next_43 fg_X9_151_10 hR.1 rfl ?_
      refine aw_icmp_ge (tgt := 61) dX9_next_46 (by decide) (fun h46 => ?_) (fun h46 => absurd (show σ.1 31 ≤ nI p by rw [h31, e]; exact Int32.le_refl _) h46)
      refine aw_iconst (v := -1) dX9_next_61 (by decide) ?_
      exact aw_iret dX9_next_62 rfl ⟨by rw [q_cur, if_neg (by omega)], hR, hK⟩
    | succ k ih =>
      intro p M9 hk hp hs hR hK
      have hlt : p < n := by omega
      have hin : vp_in (nI p) 50 := vp_in_nI (by omega) (by omega)
      have hcl := nI_cl50 (p := p) (by omega)
      have hvv : (tσ σ p R).2.1 30 ((tσ σ p R).1 32).toNatClampNeg = σ.2.1 30 p := by
        show σ.2.1 30 (nI p).toNatClampNeg = _
        rw [hcl]
      have hnot : ¬ σ.1 31 ≤ nI p := by rw [h31, nI_le_iff (by omega) (by omega)]; omega
      refine aw_aload_n dX9_next_0 rfl ?_
      refine aw_get dX9_next_1 fg_X9_154_10 hR.1 rfl ?_
      refine aw_aload_n dX9_next_4 rfl ?_
      refine aw_get dX9_next_5 fg_X9_151_10 hR.1 rfl ?_
      refine aw_icmp_ge (tgt := 38) dX9_next_8 (by decide) (fun h8 => absurd h8 hnot) (fun h8 => ?_)
      refine aw_aload_n dX9_next_11 rfl ?_
      refine aw_get dX9_next_12 fg_X9_88_10 hR.1 rfl ?_
      refine aw_aload_n dX9_next_15 rfl ?_
      refine aw_get dX9_next_16 fg_X9_154_10 hR.1 rfl ?_
      refine aw_iald dX9_next_19 (rr_30 hR) (by first | assumption | (unfold vp_in; decide)) ?_
      refine aw_bipush (v := 32) dX9_next_20 (by decide) ?_
      refine aw_icmp_ne (tgt := 38) dX9_next_22 (by decide) (fun h22 => ?_) (fun h22 => ?_)
      · have h22 : ¬ σ.2.1 30 p = 32 := by rw [← hcl]; exact h22
        have hs2 : sk (σ.2.1 30) n p0 = p := by rw [← hs]; exact sk_end (Or.inr h22)
        rw [hs2]
        refine aw_aload_n dX9_next_38 rfl ?_
        refine aw_get dX9_next_39 fg_X9_154_10 hR.1 rfl ?_
        refine aw_aload_n dX9_next_42 rfl ?_
        refine aw_get dX9_next_43 fg_X9_151_10 hR.1 rfl ?_
        refine aw_icmp_ge (tgt := 61) dX9_next_46 (by decide) (fun h46 => absurd h46 hnot) (fun h46 => ?_)
        refine aw_aload_n dX9_next_49 rfl ?_
        refine aw_get dX9_next_50 fg_X9_88_10 hR.1 rfl ?_
        refine aw_aload_n dX9_next_53 rfl ?_
        refine aw_get dX9_next_54 fg_X9_154_10 hR.1 rfl ?_
        refine aw_iald dX9_next_57 (rr_30 hR) (by first | assumption | (unfold vp_in; decide)) ?_
        refine aw_goto (tgt := 62) dX9_next_58 (by decide) ?_
        exact aw_iret dX9_next_62 rfl ⟨by rw [q_cur, if_pos hlt]; exact hvv, hR, hK⟩
      · have h22 : σ.2.1 30 p = 32 := by rw [← hcl]; exact h22
        refine aw_aload_n dX9_next_25 rfl ?_
        refine aw_dup dX9_next_26 rfl ?_
        refine aw_get dX9_next_27 fg_X9_154_10 hR.1 rfl ?_
        refine aw_iconst (v := 1) dX9_next_30 (by decide) ?_
        refine aw_iadd dX9_next_31 ?_
        refine rw_put_32 dX9_next_32 fl_X9_154_10 hR hK (fun M hR hK => ?_)
        refine aw_goto (tgt := 0) dX9_next_35 (by decide) ?_
        exact ih (p + 1) _ (by omega) (by omega) (by rw [← hs, sk_go hlt h22]) (by have := hR; rw [show (tσ σ p R).1 32 + 1 = nI (p + 1) from nI_1 p, tσ_at] at this; exact this) hK
  exact key (n - p0) p0 M rfl hp rfl hR KR.rf
set_option maxRecDepth 100000 in
set_option maxHeartbeats 4000000 in
theorem r_number {l : Launch} {g : ab_G} {M : ab_M} {a0 : Nat} {ρ : Nat → Nat} {σ : rS} {n p0 : Nat} {R : Nat → Int32} (hR : RR g M a0 ρ (tσ σ p0 R)) (hT : tT σ n) (hp : p0 ≤ n) {lo hi : Int32} : AM l g Y_X9_number 1 22 0 0 [.ref a0, .int lo, .int hi] M (ab_Qi (fun x M' => x = (q_num (σ.2.1 30) n lo hi p0).1 ∧ RR g M' a0 ρ (tσ σ (q_num (σ.2.1 30) n lo hi p0).2 R) ∧ KR M M')) := by
  refine AM.of [some (.ref a0), some (.int lo), some (.int hi), none, none, none] (by decide +kernel) (Nat.le_of_ble_eq_true rfl) rfl ?_
  have hT' := hT
  obtain ⟨h31, hn50⟩ := hT
  have hsk := sk_le (T := σ.2.1 30) hp
  have fin : ∀ (p : Nat) (v : Int32) (M9 : ab_M), p ≤ n → dg (σ.2.1 30) n hi (sk (σ.2.1 30) n p0) 0 = (p, v) → RR g M9 a0 ρ (tσ σ p R) → KR M M9 → AW l g ab_X0 (ab_Z g (ab_Qi (fun x M' => x = (q_num (σ.2.1 30) n lo hi p0).1 ∧ RR g M' a0 ρ (tσ σ (q_num (σ.2.1 30) n lo hi p0).2 R) ∧ KR M M'))) Y_X9_number 1 22 0 0 88 [some (.ref a0), some (.int lo), some (.int hi), some (.int (q_cur (σ.2.1 30) n (sk (σ.2.1 30) n p0))), some (.int (nI (sk (σ.2.1 30) n p0))), some (.int v)] [] M9 := by
    intro p v M9 hp hd hR hK
    have hq : q_num (σ.2.1 30) n lo hi p0 = if (q_cur (σ.2.1 30) n (sk (σ.2.1 30) n p0) < 0 ∨ p = sk (σ.2.1 30) n p0) ∨ q_in v lo hi = false then (-1, sk (σ.2.1 30) n p0) else (v, p) := by rw [q_num, hd]
    generalize sk (σ.2.1 30) n p0 = s at *
    refine aw_iload_n dX9_number_88 rfl ?_
    refine aw_if_lt (tgt := 111) dX9_number_89 (by decide) (fun h89 => ?_) (fun h89 => ?_)
    · refine aw_aload_n dX9_number_111 rfl ?_
      refine aw_iload dX9_number_112 rfl ?_
      refine rw_put_32 dX9_number_114 fl_X9_154_10 hR hK (fun M hR hK => ?_)
      refine aw_iconst (v := -1) dX9_number_117 (by decide) ?_
      exact aw_iret dX9_number_118 rfl (by rw [hq, if_pos (by simp_all [-Int32.not_lt])]; exact ⟨rfl, by have := hR; rw [tσ_at] at this; exact this, hK⟩)
    · refine aw_aload_n dX9_number_92 rfl ?_
      refine aw_get dX9_number_93 fg_X9_154_10 hR.1 rfl ?_
      refine aw_iload dX9_number_96 rfl ?_
      refine aw_icmp_eq (tgt := 111) dX9_number_98 (by decide) (fun h98 => ?_) (fun h98 => ?_)
      · have h98 : p = s := (nI_eq_iff (by omega) (by omega)).mp h98
        refine aw_aload_n dX9_number_111 rfl ?_
        refine aw_iload dX9_number_112 rfl ?_
        refine rw_put_32 dX9_number_114 fl_X9_154_10 hR hK (fun M hR hK => ?_)
        refine aw_iconst (v := -1) dX9_number_117 (by decide) ?_
        exact aw_iret dX9_number_118 rfl (by rw [hq, if_pos (by simp_all [-Int32.not_lt])]; exact ⟨rfl, by have := hR; rw [tσ_at] at this; exact this, hK⟩)
      · have h98 : ¬ p = s := fun e => h98 (by rw [e]; rfl)
        refine aw_iload dX9_number_101 rfl ?_
        refine aw_iload_n dX9_number_103 rfl ?_
        refine aw_iload_n dX9_number_104 rfl ?_
        refine aw_S3i (kc' := 0) (ks' := 0) dX9_number_105 cs_X9_112 r_in rfl (Nat.le_of_ble_eq_true rfl) (fun x105 M105 h105 => ?_)
        obtain ⟨rfl, e105⟩ := h105
        replace e105 := e105.symm
        subst e105
        refine aw_if_ne (tgt := 119) dX9_number_108 (by decide) (fun h108 => ?_) (fun h108 => ?_)
        · replace h108 := b2i_n.mp h108
          refine aw_iload dX9_number_119 rfl ?_
          exact aw_iret dX9_number_121 rfl (by rw [hq, if_neg (by simp_all [-Int32.not_lt])]; exact ⟨rfl, hR, hK⟩)
        · replace h108 := b2i_0.mp h108
          refine aw_aload_n dX9_number_111 rfl ?_
          refine aw_iload dX9_number_112 rfl ?_
          refine rw_put_32 dX9_number_114 fl_X9_154_10 hR hK (fun M hR hK => ?_)
          refine aw_iconst (v := -1) dX9_number_117 (by decide) ?_
          exact aw_iret dX9_number_118 rfl (by rw [hq, if_pos (by simp_all [-Int32.not_lt])]; exact ⟨rfl, by have := hR; rw [tσ_at] at this; exact this, hK⟩)
  have key : ∀ (k p : Nat) (v : Int32) (M9 : ab_M), n - p = k → p ≤ n → dg (σ.2.1 30) n hi p v = dg (σ.2.1 30) n hi (sk (σ.2.1 30) n p0) 0 → RR g M9 a0 ρ (tσ σ p R) → KR M M9 → AW l g ab_X0 (ab_Z g (ab_Qi (fun x M' => x = (q_num (σ.2.1 30) n lo hi p0).1 ∧ RR g M' a0 ρ (tσ σ (q_num (σ.2.1 30) n lo hi p0).2 R) ∧ KR M M'))) Y_X9_number 1 22 0 0 14 [some (.ref a0), some (.int lo), some (.int hi), some (.int (q_cur (σ.2.1 30) n (sk (σ.2.1 30) n p0))), some (.int (nI (sk (σ.2.1 30) n p0))), some (.int v)] [] M9 := by
    intro k
    induction k with
    | zero =>
      intro p v M9 hk hp hs hR hK
      have e : p = n := by omega
      refine aw_aload_n dX9_number_14 rfl ?_
      refine aw_get dX9_number_15 fg_X9_154_10 hR.1 rfl ?_
      refine aw_aload_n dX9_number_18 rfl ?_
      refine aw_get dX9_number_19 fg_X9_151_10 hR.1 rfl ?_
      refine aw_icmp_ge (tgt := 88) dX9_number_22 (by decide) (fun h22 => ?_) (fun h22 => absurd (show σ.1 31 ≤ nI p by rw [h31, e]; exact Int32.le_refl _) h22)
      exact fin p v _ hp (by rw [← hs]; exact dg_end (Or.inl (by omega))) hR hK
    | succ k ih =>
      intro p v M9 hk hp hs hR hK
      have hlt : p < n := by omega
      have hin : vp_in (nI p) 50 := vp_in_nI (by omega) (by omega)
      have hcl := nI_cl50 (p := p) (by omega)
      have hvv : (tσ σ p R).2.1 30 ((tσ σ p R).1 32).toNatClampNeg = σ.2.1 30 p := by
        show σ.2.1 30 (nI p).toNatClampNeg = _
        rw [hcl]
      have hnot : ¬ σ.1 31 ≤ nI p := by rw [h31, nI_le_iff (by omega) (by omega)]; omega
      refine aw_aload_n dX9_number_14 rfl ?_
      refine aw_get dX9_number_15 fg_X9_154_10 hR.1 rfl ?_
      refine aw_aload_n dX9_number_18 rfl ?_
      refine aw_get dX9_number_19 fg_X9_151_10 hR.1 rfl ?_
      refine aw_icmp_ge (tgt := 88) dX9_number_22 (by decide) (fun h22 => absurd h22 hnot) (fun h22 => ?_)
      refine aw_aload_n dX9_number_25 rfl ?_
      refine aw_get dX9_number_26 fg_X9_88_10 hR.1 rfl ?_
      refine aw_aload_n dX9_number_29 rfl ?_
      refine aw_get dX9_number_30 fg_X9_154_10 hR.1 rfl ?_
      refine aw_iald dX9_number_33 (rr_30 hR) (by first | assumption | (unfold vp_in; decide)) ?_
      refine aw_bipush (v := 48) dX9_number_34 (by decide) ?_
      refine aw_bipush (v := 57) dX9_number_36 (by decide) ?_
      refine aw_S3i (kc' := 0) (ks' := 0) dX9_number_38 cs_X9_112 r_in rfl (Nat.le_of_ble_eq_true rfl) (fun x38 M38 h38 => ?_)
      obtain ⟨rfl, e38⟩ := h38
      replace e38 := e38.symm
      subst e38
      refine aw_if_eq (tgt := 88) dX9_number_41 (by decide) (fun h41 => ?_) (fun h41 => ?_)
      · replace h41 := b2i_0.mp h41
        have h41 : q_in (σ.2.1 30 p) 48 57 = false := by rw [← hcl]; exact h41
        exact fin p v _ hp (by rw [← hs]; exact dg_end (Or.inr h41)) hR hK
      · replace h41 := b2i_n.mp h41
        have h41 : q_in (σ.2.1 30 p) 48 57 = true := by rw [← hcl]; exact h41
        refine aw_iload dX9_number_44 rfl ?_
        refine aw_iload_n dX9_number_46 rfl ?_
        refine aw_icmp_le (tgt := 55) dX9_number_47 (by decide) (fun h47 => ?_) (fun h47 => ?_)
        · refine aw_bipush (v := 10) dX9_number_55 (by decide) ?_
          refine aw_iload dX9_number_57 rfl ?_
          refine aw_imul dX9_number_59 ?_
          refine aw_aload_n dX9_number_60 rfl ?_
          refine aw_get dX9_number_61 fg_X9_88_10 hR.1 rfl ?_
          refine aw_aload_n dX9_number_64 rfl ?_
          refine aw_get dX9_number_65 fg_X9_154_10 hR.1 rfl ?_
          refine aw_iald dX9_number_68 (rr_30 hR) (by first | assumption | (unfold vp_in; decide)) ?_
          refine aw_iadd dX9_number_69 ?_
          refine aw_bipush (v := 48) dX9_number_70 (by decide) ?_
          refine aw_isub dX9_number_72 ?_
          refine aw_istore dX9_number_73 rfl (by decide) ?_
          refine aw_aload_n dX9_number_75 rfl ?_
          refine aw_dup dX9_number_76 rfl ?_
          refine aw_get dX9_number_77 fg_X9_154_10 hR.1 rfl ?_
          refine aw_iconst (v := 1) dX9_number_80 (by decide) ?_
          refine aw_iadd dX9_number_81 ?_
          refine rw_put_32 dX9_number_82 fl_X9_154_10 hR hK (fun M hR hK => ?_)
          refine aw_goto (tgt := 14) dX9_number_85 (by decide) ?_
          exact ih (p + 1) _ _ (by omega) (by omega) (by rw [← hs, dg_go hlt h41]; first | (rw [if_pos h47, hvv]; done) | (rw [if_neg h47]; done)) (by have := hR; rw [show (tσ σ p R).1 32 + 1 = nI (p + 1) from nI_1 p, tσ_at] at this; exact this) hK
        · refine aw_iload dX9_number_50 rfl ?_
          refine aw_goto (tgt := 73) dX9_number_52 (by decide) ?_
          refine aw_istore dX9_number_73 rfl (by decide) ?_
          refine aw_aload_n dX9_number_75 rfl ?_
          refine aw_dup dX9_number_76 rfl ?_
          refine aw_get dX9_number_77 fg_X9_154_10 hR.1 rfl ?_
          refine aw_iconst (v := 1) dX9_number_80 (by decide) ?_
          refine aw_iadd dX9_number_81 ?_
          refine rw_put_32 dX9_number_82 fl_X9_154_10 hR hK (fun M hR hK => ?_)
          refine aw_goto (tgt := 14) dX9_number_85 (by decide) ?_
          exact ih (p + 1) _ _ (by omega) (by omega) (by rw [← hs, dg_go hlt h41]; first | (rw [if_pos h47, hvv]; done) | (rw [if_neg h47]; done)) (by have := hR; rw [show (tσ σ p R).1 32 + 1 = nI (p + 1) from nI_1 p, tσ_at] at this; exact this) hK
  have hK : KR M M := KR.rf
  refine aw_aload_n dX9_number_0 rfl ?_
  refine aw_V0i (kc' := 0) (ks' := 0) dX9_number_1 cs_X9_157_10 hR.1 (r_next hR hT' hp) rfl (Nat.le_of_ble_eq_true rfl) (fun x1 M1 h1 => ?_)
  obtain ⟨rfl, hR, hK1⟩ := h1
  replace hK := hK.tr hK1
  refine aw_istore_n dX9_number_4 rfl (by decide) ?_
  refine aw_aload_n dX9_number_5 rfl ?_
  refine aw_get dX9_number_6 fg_X9_154_10 hR.1 rfl ?_
  refine aw_istore dX9_number_9 rfl (by decide) ?_
  refine aw_iconst (v := 0) dX9_number_11 (by decide) ?_
  refine aw_istore dX9_number_12 rfl (by decide) ?_
  exact key _ (sk (σ.2.1 30) n p0) 0 _ rfl hsk.2 rfl hR hK
