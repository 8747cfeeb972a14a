/-! ===== the class's tape ===== -/
def tκ (κ : cS) (p : Nat) (R : Nat → Int32) : cS := (tσ κ.1 p R, κ.2)
theorem tκ_at {κ : cS} {p q : Nat} {R : Nat → Int32} : cs (tκ κ p R) 32 (nI q) = tκ κ q R := by
  show (rs (tσ κ.1 p R) 32 (nI q), κ.2) = (tσ κ.1 q R, κ.2)
  rw [tσ_at]
theorem tκ_R {κ : cS} {p : Nat} {R Q : Nat → Int32} : cr (tκ κ p R) 34 Q = tκ κ p Q := by
  show (ra (tσ κ.1 p R) 34 Q, κ.2) = (tσ κ.1 p Q, κ.2)
  rw [tσ_R]
theorem tκ_inc {κ : cS} {p : Nat} {R : Nat → Int32} : cs (tκ κ p R) 32 ((tκ κ p R).1.1 32 + 1) = tκ κ (p + 1) R := by
  rw [show (tκ κ p R).1.1 32 + 1 = nI (p + 1) from nI_1 p, tκ_at]
def dcF (T : Nat → Int32) (n : Nat) : Nat → Nat → Int32 → Nat × Int32
  | 0, p, v => (p, v)
  | k + 1, p, v => if p < n ∧ q_in (T p) 48 57 = true then dcF T n k (p + 1) (q_min 100 (v * 10 + T p - 48)) else (p, v)
def dc (T : Nat → Int32) (n : Nat) (p : Nat) (v : Int32) : Nat × Int32 := dcF T n (n - p) p v
theorem dc_go {T : Nat → Int32} {n p : Nat} {v : Int32} (h : p < n) (h2 : q_in (T p) 48 57 = true) : dc T n p v = dc T n (p + 1) (q_min 100 (v * 10 + T p - 48)) := by
  unfold dc
  rw [show n - p = (n - (p + 1)) + 1 by omega, dcF, if_pos ⟨h, h2⟩]
theorem dc_end {T : Nat → Int32} {n p : Nat} {v : Int32} (h : n ≤ p ∨ q_in (T p) 48 57 = false) : dc T n p v = (p, v) := by
  unfold dc
  cases n - p with
  | zero => rfl
  | succ k =>
    rw [dcF, if_neg]
    rintro ⟨h1, h2⟩
    rcases h with h | h
    · omega
    · rw [h] at h2
      cases h2
/-- the two ways to read digits -/
theorem dc_dg {T : Nat → Int32} {n : Nat} {hi : Int32} (h0 : 0 ≤ hi.toInt) (h9 : hi.toInt ≤ 99) : ∀ (k p : Nat) (v c : Int32), 0 ≤ v.toInt → v.toInt ≤ 999 → 0 ≤ c.toInt → c.toInt ≤ 100 → (v.toInt ≤ hi.toInt → c = v) → (hi.toInt < v.toInt → hi.toInt < c.toInt) →
    (dcF T n k p c).1 = (dgF T n hi k p v).1 ∧ 0 ≤ (dgF T n hi k p v).2.toInt ∧ 0 ≤ (dcF T n k p c).2.toInt ∧ ((dgF T n hi k p v).2.toInt ≤ hi.toInt → (dcF T n k p c).2 = (dgF T n hi k p v).2) ∧ (hi.toInt < (dgF T n hi k p v).2.toInt → hi.toInt < (dcF T n k p c).2.toInt)
  | 0, p, v, c, a, b, d, e, f, i => ⟨rfl, a, d, f, i⟩
  | k + 1, p, v, c, a, b, d, e, f, i => by
    rw [dcF, dgF]
    split
    · next h =>
      have hT := q_in_iff.mp h.2
      rw [show (48 : Int32).toInt = 48 by decide, show (57 : Int32).toInt = 57 by decide] at hT
      have t10 : (10 : Int32).toInt = 10 := by decide
      have t48 : (48 : Int32).toInt = 48 := by decide
      have t100 : (100 : Int32).toInt = 100 := by decide
      have hc1 : (c * 10).toInt = c.toInt * 10 := by rw [fb_mulI (by rw [t10]; omega) (by rw [t10]; omega), t10]
      have hc2 : (c * 10 + T p).toInt = c.toInt * 10 + (T p).toInt := by rw [fb_addI (by rw [hc1]; omega) (by rw [hc1]; omega), hc1]
      have hc3 : (c * 10 + T p - 48).toInt = c.toInt * 10 + (T p).toInt - 48 := by rw [fb_subI (by rw [hc2, t48]; omega) (by rw [hc2, t48]; omega), hc2, t48]
      have hm : (q_min 100 (c * 10 + T p - 48)).toInt = min 100 (c.toInt * 10 + (T p).toInt - 48) := by
        unfold q_min
        split
        · next h5 =>
          rw [Int32.lt_iff_toInt_lt, hc3, t100] at h5
          rw [hc3]
          omega
        · next h5 =>
          rw [Int32.lt_iff_toInt_lt, hc3, t100] at h5
          rw [t100]
          omega
      by_cases hv : v ≤ hi
      · rw [if_pos hv]
        rw [Int32.le_iff_toInt_le] at hv
        have hcv := f hv
        subst hcv
        have hv1 : (10 * c).toInt = 10 * c.toInt := by rw [fb_mulI (by rw [t10]; omega) (by rw [t10]; omega), t10]
        have hv2 : (10 * c + T p).toInt = 10 * c.toInt + (T p).toInt := by rw [fb_addI (by rw [hv1]; omega) (by rw [hv1]; omega), hv1]
        have hv3 : (10 * c + T p - 48).toInt = 10 * c.toInt + (T p).toInt - 48 := by rw [fb_subI (by rw [hv2, t48]; omega) (by rw [hv2, t48]; omega), hv2, t48]
        refine dc_dg h0 h9 k (p + 1) _ _ (by omega) (by omega) (by omega) (by omega) (fun q => ?_) (fun q => by omega)
        apply Int32.toInt_inj.mp
        omega
      · rw [if_neg hv]
        rw [Int32.le_iff_toInt_le] at hv
        have := i (by omega)
        exact dc_dg h0 h9 k (p + 1) _ _ (by omega) (by omega) (by omega) (by omega) (fun q => by omega) (fun q => by omega)
    · exact ⟨rfl, a, d, f, i⟩
theorem num_eq {T : Nat → Int32} {n p : Nat} {lo hi : Int32} (h0 : 0 ≤ hi.toInt) (h9 : hi.toInt ≤ 99) (hp : p ≤ n) : (if sk T n p < (dc T n (sk T n p) 0).1 ∧ q_in (dc T n (sk T n p) 0).2 lo hi = true then ((dc T n (sk T n p) 0).2, (dc T n (sk T n p) 0).1) else (-1, sk T n p)) = q_num T n lo hi p := by
  obtain ⟨e1, e2, e3, e4, e5⟩ := dc_dg (T := T) (n := n) h0 h9 (n - sk T n p) (sk T n p) 0 0 (by decide) (by decide) (by decide) (by decide) (fun _ => rfl) (fun h => h)
  have hle := dg_le (T := T) (hi := hi) (v := 0) (sk_le (T := T) hp).2
  have hcur : (dg T n hi (sk T n p) 0).1 ≠ sk T n p → ¬ q_cur T n (sk T n p) < 0 := by
    intro h
    by_cases hl : n ≤ sk T n p ∨ q_in (T (sk T n p)) 48 57 = false
    · rw [dg_end hl] at h
      exact absurd rfl h
    · have h1 : sk T n p < n := Nat.lt_of_not_le (fun q => hl (Or.inl q))
      have h2 : q_in (T (sk T n p)) 48 57 = true := by
        cases h3 : q_in (T (sk T n p)) 48 57 with
        | true => rfl
        | false => exact absurd (Or.inr h3) hl
      rw [q_cur, if_pos h1, Int32.lt_iff_toInt_lt, t_0]
      have := (q_in_iff.mp h2).1
      rw [show (48 : Int32).toInt = 48 by decide] at this
      omega
  unfold q_num
  unfold dc
  unfold dg at *
  rw [e1]
  by_cases hd : (dgF T n hi (n - sk T n p) (sk T n p) 0).1 = sk T n p
  · rw [if_neg (by rintro ⟨h, -⟩; omega), if_pos (Or.inl (Or.inr hd))]
  · have hlt : sk T n p < (dgF T n hi (n - sk T n p) (sk T n p) 0).1 := by omega
    by_cases hv : (dgF T n hi (n - sk T n p) (sk T n p) 0).2.toInt ≤ hi.toInt
    · rw [e4 hv]
      by_cases hq : q_in (dgF T n hi (n - sk T n p) (sk T n p) 0).2 lo hi = true
      · rw [if_pos ⟨hlt, hq⟩, if_neg]
        rintro ((h | h) | h)
        · exact hcur hd h
        · exact hd h
        · rw [h] at hq
          cases hq
      · rw [if_neg (fun h => hq h.2), if_pos (Or.inr (by simpa using hq))]
    · have h5 := e5 (by omega)
      have q1 : q_in (dgF T n hi (n - sk T n p) (sk T n p) 0).2 lo hi = false := by
        cases h : q_in (dgF T n hi (n - sk T n p) (sk T n p) 0).2 lo hi with
        | false => rfl
        | true => exact absurd (q_in_iff.mp h).2 hv
      have q2 : ¬ q_in (dcF T n (n - sk T n p) (sk T n p) 0).2 lo hi = true := fun h => by have := (q_in_iff.mp h).2; omega
      rw [if_neg (fun h => q2 h.2), if_pos (Or.inr q1)]
set_option maxRecDepth 100000 in
set_option maxHeartbeats 4000000 in
theorem c_skipBlanks {l : Launch} {g : ab_G} {M : ab_M} {α : Nat → Nat → Nat} {nf nj nm : Nat} {κ : cS} {n p0 : Nat} {R : Nat → Int32} (hC : CC g M α nf nj nm (tκ κ p0 R)) (hT : tT κ.1 n) (hp : p0 ≤ n) : AM l g Y_X1_skipBlanks 0 0 0 0 [.ref (α 3 0)] M (ab_Qv (fun M' => CC g M' α nf nj nm (tκ κ (sk (κ.1.2.1 30) n p0) R) ∧ KH M M')) := by
  refine AM.of [some (.ref (α 3 0))] (by decide +kernel) (Nat.le_of_ble_eq_true rfl) rfl ?_
  obtain ⟨h31, hn50⟩ := hT
  have key : ∀ (k p : Nat) (M9 : ab_M), n - p = k → p ≤ n → sk (κ.1.2.1 30) n p = sk (κ.1.2.1 30) n p0 → CC g M9 α nf nj nm (tκ κ p R) → KH M M9 → AW l g ab_X0 (ab_Z g (ab_Qv (fun M' => CC g M' α nf nj nm (tκ κ (sk (κ.1.2.1 30) n p0) R) ∧ KH M M'))) Y_X1_skipBlanks 0 0 0 0 0 [some (.ref (α 3 0))] [] M9 := by
    intro k
    induction k with
    | zero =>
      intro p M9 hk hp hs hC hK
      have e : p = n := by omega
      have hs2 : sk (κ.1.2.1 30) n p0 = p := by rw [← hs]; exact sk_end (Or.inl (by omega))
      rw [hs2]
      refine aw_aload_n dX1_skipBlanks_0 rfl ?_
      refine aw_get dX1_skipBlanks_1 fg_X1_25_2 hC.2.1.1 rfl ?_
      refine aw_aload_n dX1_skipBlanks_4 rfl ?_
      refine aw_get dX1_skipBlanks_5 fg_X1_21_2 hC.2.1.1 rfl ?_
      refine aw_icmp_ge (tgt := 38) dX1_skipBlanks_8 (by decide) (fun h8 => ?_) (fun h8 => absurd (show κ.1.1 31 ≤ nI p by rw [h31, e]; exact Int32.le_refl _) h8)
      exact aw_vret dX1_skipBlanks_38 rfl ⟨hC, hK⟩
    | succ k ih =>
      intro p M9 hk hp hs hC hK
      have hlt : p < n := by omega
      have hin : vp_in (nI p) 50 := vp_in_nI (by omega) (by omega)
      have hcl := nI_cl50 (p := p) (by omega)
      have hnot : ¬ κ.1.1 31 ≤ nI p := by rw [h31, nI_le_iff (by omega) (by omega)]; omega
      refine aw_aload_n dX1_skipBlanks_0 rfl ?_
      refine aw_get dX1_skipBlanks_1 fg_X1_25_2 hC.2.1.1 rfl ?_
      refine aw_aload_n dX1_skipBlanks_4 rfl ?_
      refine aw_get dX1_skipBlanks_5 fg_X1_21_2 hC.2.1.1 rfl ?_
      refine aw_icmp_ge (tgt := 38) dX1_skipBlanks_8 (by decide) (fun h8 => absurd h8 hnot) (fun h8 => ?_)
      refine aw_aload_n dX1_skipBlanks_11 rfl ?_
      refine aw_get dX1_skipBlanks_12 fg_X1_11_2 hC.2.1.1 rfl ?_
      refine aw_aload_n dX1_skipBlanks_15 rfl ?_
      refine aw_get dX1_skipBlanks_16 fg_X1_25_2 hC.2.1.1 rfl ?_
      refine aw_iald dX1_skipBlanks_19 hC.2.1.2.1 hin ?_
      refine aw_bipush (v := 32) dX1_skipBlanks_20 (by decide) ?_
      refine aw_icmp_ne (tgt := 38) dX1_skipBlanks_22 (by decide) (fun h22 => ?_) (fun h22 => ?_)
      · have h22 : ¬ κ.1.2.1 30 p = 32 := by rw [← hcl]; exact h22
        have hs2 : sk (κ.1.2.1 30) n p0 = p := by rw [← hs]; exact sk_end (Or.inr h22)
        rw [hs2]
        exact aw_vret dX1_skipBlanks_38 rfl ⟨hC, hK⟩
      · have h22 : κ.1.2.1 30 p = 32 := by rw [← hcl]; exact h22
        refine aw_aload_n dX1_skipBlanks_25 rfl ?_
        refine aw_dup dX1_skipBlanks_26 rfl ?_
        refine aw_get dX1_skipBlanks_27 fg_X1_25_2 hC.2.1.1 rfl ?_
        refine aw_iconst (v := 1) dX1_skipBlanks_30 (by decide) ?_
        refine aw_iadd dX1_skipBlanks_31 ?_
        refine cw_pA4 dX1_skipBlanks_32 fl_X1_25_2 hC hK (fun M hC hK => ?_)
        refine aw_goto (tgt := 0) dX1_skipBlanks_35 (by decide) ?_
        exact ih (p + 1) _ (by omega) (by omega) (by rw [← hs, sk_go hlt h22]) (by have h9 := hC; rw [tκ_inc] at h9; exact h9) hK
  exact key (n - p0) p0 M rfl hp rfl hC KT.rf
set_option maxRecDepth 100000 in
set_option maxHeartbeats 4000000 in
theorem c_isAtEnd {l : Launch} {g : ab_G} {M : ab_M} {α : Nat → Nat → Nat} {nf nj nm : Nat} {κ : cS} {n p0 : Nat} {R : Nat → Int32} (hC : CC g M α nf nj nm (tκ κ p0 R)) (hT : tT κ.1 n) (hp : p0 ≤ n) : AM l g Y_X1_isAtEnd 1 20 0 0 [.ref (α 3 0)] M (ab_Qi (fun x M' => x = b2i (decide (n ≤ sk (κ.1.2.1 30) n p0)) ∧ CC g M' α nf nj nm (tκ κ (sk (κ.1.2.1 30) n p0) R) ∧ KH M M')) := by
  refine AM.of [some (.ref (α 3 0))] (by decide +kernel) (Nat.le_of_ble_eq_true rfl) rfl ?_
  have hn50 := hT.2
  have h31 := hT.1
  have hsk := sk_le (T := (κ.1.2.1 30)) hp
  have hK : KH M M := KT.rf
  refine aw_aload_n dX1_isAtEnd_0 rfl ?_
  refine aw_V0v (kc' := 0) (ks' := 0) dX1_isAtEnd_1 cs_X1_64_2 hC.2.1.1 (c_skipBlanks hC hT hp) rfl (Nat.le_of_ble_eq_true rfl) (fun M1 h1 => ?_)
  obtain ⟨hC, hK1⟩ := h1
  replace hK := hK.tr hK1
  refine aw_aload_n dX1_isAtEnd_4 rfl ?_
  refine aw_get dX1_isAtEnd_5 fg_X1_25_2 hC.2.1.1 rfl ?_
  refine aw_aload_n dX1_isAtEnd_8 rfl ?_
  refine aw_get dX1_isAtEnd_9 fg_X1_21_2 hC.2.1.1 rfl ?_
  refine aw_icmp_lt (tgt := 19) dX1_isAtEnd_12 (by decide) (fun h12 => ?_) (fun h12 => ?_)
  · have h12 : ¬ n ≤ sk (κ.1.2.1 30) n p0 := by have h9 : ¬ κ.1.1 31 ≤ nI (sk (κ.1.2.1 30) n p0) := Int32.not_le.mpr h12; rw [h31, nI_le_iff (by omega) (by omega)] at h9; exact h9
    refine aw_iconst (v := 0) dX1_isAtEnd_19 (by decide) ?_
    exact aw_zret dX1_isAtEnd_20 rfl rfl ⟨by simp [h12, b2i], hC, hK⟩
  · have h12 : n ≤ sk (κ.1.2.1 30) n p0 := by have h9 : κ.1.1 31 ≤ nI (sk (κ.1.2.1 30) n p0) := Int32.not_lt.mp h12; rw [h31, nI_le_iff (by omega) (by omega)] at h9; exact h9
    refine aw_iconst (v := 1) dX1_isAtEnd_15 (by decide) ?_
    refine aw_goto (tgt := 20) dX1_isAtEnd_16 (by decide) ?_
    exact aw_zret dX1_isAtEnd_20 rfl rfl ⟨by simp [h12, b2i], hC, hK⟩
set_option maxRecDepth 100000 in
set_option maxHeartbeats 4000000 in
theorem c_readSign {l : Launch} {g : ab_G} {M : ab_M} {α : Nat → Nat → Nat} {nf nj nm : Nat} {κ : cS} {n p0 : Nat} {R : Nat → Int32} (hC : CC g M α nf nj nm (tκ κ p0 R)) (hT : tT κ.1 n) (hp : p0 ≤ n) {c : Int32} (hc : ¬ c = -1) : AM l g Y_X1_readSign 1 20 0 0 [.ref (α 3 0), .int c] M (ab_Qi (fun x M' => x = b2i (decide (q_cur (κ.1.2.1 30) n (sk (κ.1.2.1 30) n p0) = c)) ∧ CC g M' α nf nj nm (tκ κ (if q_cur (κ.1.2.1 30) n (sk (κ.1.2.1 30) n p0) = c then sk (κ.1.2.1 30) n p0 + 1 else sk (κ.1.2.1 30) n p0) R) ∧ KH M M')) := by
  refine AM.of [some (.ref (α 3 0)), some (.int c)] (by decide +kernel) (Nat.le_of_ble_eq_true rfl) rfl ?_
  have hn50 := hT.2
  have h31 := hT.1
  have hsk := sk_le (T := (κ.1.2.1 30)) hp
  have hK : KH M M := KT.rf
  have hcl := nI_cl50 (p := sk (κ.1.2.1 30) n p0) (by omega)
  refine aw_aload_n dX1_readSign_0 rfl ?_
  refine aw_V0v (kc' := 0) (ks' := 0) dX1_readSign_1 cs_X1_64_2 hC.2.1.1 (c_skipBlanks hC hT hp) rfl (Nat.le_of_ble_eq_true rfl) (fun M1 h1 => ?_)
  obtain ⟨hC, hK1⟩ := h1
  replace hK := hK.tr hK1
  refine aw_aload_n dX1_readSign_4 rfl ?_
  refine aw_get dX1_readSign_5 fg_X1_25_2 hC.2.1.1 rfl ?_
  refine aw_aload_n dX1_readSign_8 rfl ?_
  refine aw_get dX1_readSign_9 fg_X1_21_2 hC.2.1.1 rfl ?_
  refine aw_icmp_ge (tgt := 28) dX1_readSign_12 (by decide) (fun h12 => ?_) (fun h12 => ?_)
  · have hq : ¬ q_cur (κ.1.2.1 30) n (sk (κ.1.2.1 30) n p0) = c := fun e => by
      have h8 := q_cur_lt e hc
      have h9 : κ.1.1 31 ≤ nI (sk (κ.1.2.1 30) n p0) := h12
      rw [h31, nI_le_iff (by omega) (by omega)] at h9
      omega
    refine aw_iconst (v := 0) dX1_readSign_28 (by decide) ?_
    exact aw_zret dX1_readSign_29 rfl rfl ⟨by simp [hq, b2i], by rw [if_neg hq]; exact hC, hK⟩
  · have hlt : sk (κ.1.2.1 30) n p0 < n := by have h9 : ¬ κ.1.1 31 ≤ nI (sk (κ.1.2.1 30) n p0) := h12; rw [h31, nI_le_iff (by omega) (by omega)] at h9; omega
    have hqc : q_cur (κ.1.2.1 30) n (sk (κ.1.2.1 30) n p0) = κ.1.2.1 30 (nI (sk (κ.1.2.1 30) n p0)).toNatClampNeg := by rw [q_cur, if_pos hlt, hcl]
    refine aw_aload_n dX1_readSign_15 rfl ?_
    refine aw_get dX1_readSign_16 fg_X1_11_2 hC.2.1.1 rfl ?_
    refine aw_aload_n dX1_readSign_19 rfl ?_
    refine aw_get dX1_readSign_20 fg_X1_25_2 hC.2.1.1 rfl ?_
    refine aw_iald dX1_readSign_23 hC.2.1.2.1 (show vp_in (nI (sk (κ.1.2.1 30) n p0)) 50 from vp_in_nI (by omega) (by omega)) ?_
    refine aw_iload_n dX1_readSign_24 rfl ?_
    refine aw_icmp_eq (tgt := 30) dX1_readSign_25 (by decide) (fun h25 => ?_) (fun h25 => ?_)
    · have hq : q_cur (κ.1.2.1 30) n (sk (κ.1.2.1 30) n p0) = c := hqc.trans h25
      refine aw_aload_n dX1_readSign_30 rfl ?_
      refine aw_dup dX1_readSign_31 rfl ?_
      refine aw_get dX1_readSign_32 fg_X1_25_2 hC.2.1.1 rfl ?_
      refine aw_iconst (v := 1) dX1_readSign_35 (by decide) ?_
      refine aw_iadd dX1_readSign_36 ?_
      refine cw_pA4 dX1_readSign_37 fl_X1_25_2 hC hK (fun M hC hK => ?_)
      refine aw_iconst (v := 1) dX1_readSign_40 (by decide) ?_
      exact aw_zret dX1_readSign_41 rfl rfl ⟨by simp [hq, b2i], by rw [if_pos hq]; have h9 := hC; rw [tκ_inc] at h9; exact h9, hK⟩
    · have hq : ¬ q_cur (κ.1.2.1 30) n (sk (κ.1.2.1 30) n p0) = c := fun e => h25 (hqc.symm.trans e)
      refine aw_iconst (v := 0) dX1_readSign_28 (by decide) ?_
      exact aw_zret dX1_readSign_29 rfl rfl ⟨by simp [hq, b2i], by rw [if_neg hq]; exact hC, hK⟩
set_option maxRecDepth 100000 in
set_option maxHeartbeats 4000000 in
theorem c_readNumber {l : Launch} {g : ab_G} {M : ab_M} {α : Nat → Nat → Nat} {nf nj nm : Nat} {κ : cS} {n p0 : Nat} {R : Nat → Int32} (hC : CC g M α nf nj nm (tκ κ p0 R)) (hT : tT κ.1 n) (hp : p0 ≤ n) {lo hi : Int32} (h0 : 0 ≤ hi.toInt) (h9 : hi.toInt ≤ 99) : AM l g Y_X1_readNumber 1 22 0 0 [.ref (α 3 0), .int lo, .int hi] M (ab_Qi (fun x M' => x = (q_num (κ.1.2.1 30) n lo hi p0).1 ∧ CC g M' α nf nj nm (tκ κ ((q_num (κ.1.2.1 30) n lo hi p0).2) R) ∧ KH M M')) := by
  refine AM.of [some (.ref (α 3 0)), some (.int lo), some (.int hi), none, none] (by decide +kernel) (Nat.le_of_ble_eq_true rfl) rfl ?_
  have hn50 := hT.2
  have h31 := hT.1
  have hsk := sk_le (T := (κ.1.2.1 30)) hp
  have hnum := num_eq (T := (κ.1.2.1 30)) (lo := lo) h0 h9 hp
  have fin : ∀ (p : Nat) (v : Int32) (M9 : ab_M), p ≤ n → dc (κ.1.2.1 30) n (sk (κ.1.2.1 30) n p0) 0 = (p, v) → CC g M9 α nf nj nm (tκ κ p R) → KH M M9 → AW l g ab_X0 (ab_Z g (ab_Qi (fun x M' => x = (q_num (κ.1.2.1 30) n lo hi p0).1 ∧ CC g M' α nf nj nm (tκ κ ((q_num (κ.1.2.1 30) n lo hi p0).2) R) ∧ KH M M'))) Y_X1_readNumber 1 22 0 0 80 [some (.ref (α 3 0)), some (.int lo), some (.int hi), some (.int (nI (sk (κ.1.2.1 30) n p0))), some (.int (v))] [] M9 := by
    intro p v M9 hp hd hC hK
    rw [← hnum, hd]
    refine aw_aload_n dX1_readNumber_80 rfl ?_
    refine aw_get dX1_readNumber_81 fg_X1_25_2 hC.2.1.1 rfl ?_
    refine aw_iload_n dX1_readNumber_84 rfl ?_
    refine aw_icmp_le (tgt := 101) dX1_readNumber_85 (by decide) (fun h85 => ?_) (fun h85 => ?_)
    · have hno : ¬ (sk (κ.1.2.1 30) n p0 < p ∧ q_in v lo hi = true) := fun q => by
        have h9 := (nI_le_iff (by omega) (by omega)).mp (show nI p ≤ nI (sk (κ.1.2.1 30) n p0) from h85)
        omega
      refine aw_aload_n dX1_readNumber_101 rfl ?_
      refine aw_iload_n dX1_readNumber_102 rfl ?_
      refine cw_pA4 dX1_readNumber_103 fl_X1_25_2 hC hK (fun M hC hK => ?_)
      refine aw_iconst (v := -1) dX1_readNumber_106 (by decide) ?_
      exact aw_iret dX1_readNumber_107 rfl (by rw [if_neg hno]; exact ⟨rfl, by have h9 := hC; rw [tκ_at] at h9; exact h9, hK⟩)
    · have h85 : sk (κ.1.2.1 30) n p0 < p := Nat.lt_of_not_le (fun q => h85 (show nI p ≤ nI (sk (κ.1.2.1 30) n p0) from (nI_le_iff (by omega) (by omega)).mpr q))
      refine aw_iload dX1_readNumber_88 rfl ?_
      refine aw_iload_n dX1_readNumber_90 rfl ?_
      refine aw_iload_n dX1_readNumber_91 rfl ?_
      refine aw_N3i (kc' := 0) (ks' := 0) dX1_readNumber_92 cs_X1_34 c_outside rfl (Nat.le_of_ble_eq_true rfl) (fun x92 M92 h92 => ?_)
      obtain ⟨rfl, e92⟩ := h92
      replace e92 := e92.symm
      subst e92
      rw [q_out_in]
      refine aw_if_ne (tgt := 101) dX1_readNumber_95 (by decide) (fun h95 => ?_) (fun h95 => ?_)
      · replace h95 := b2i_n.mp h95
        simp at h95
        have hno : ¬ (sk (κ.1.2.1 30) n p0 < p ∧ q_in v lo hi = true) := fun q => by rw [h95] at q; exact absurd q.2 (by decide)
        refine aw_aload_n dX1_readNumber_101 rfl ?_
        refine aw_iload_n dX1_readNumber_102 rfl ?_
        refine cw_pA4 dX1_readNumber_103 fl_X1_25_2 hC hK (fun M hC hK => ?_)
        refine aw_iconst (v := -1) dX1_readNumber_106 (by decide) ?_
        exact aw_iret dX1_readNumber_107 rfl (by rw [if_neg hno]; exact ⟨rfl, by have h9 := hC; rw [tκ_at] at h9; exact h9, hK⟩)
      · replace h95 := b2i_0.mp h95
        simp at h95
        refine aw_iload dX1_readNumber_98 rfl ?_
        exact aw_iret dX1_readNumber_100 rfl (by rw [if_pos ⟨h85, h95⟩]; exact ⟨rfl, hC, hK⟩)
  have key : ∀ (k p : Nat) (v : Int32) (M9 : ab_M), n - p = k → p ≤ n → dc (κ.1.2.1 30) n p v = dc (κ.1.2.1 30) n (sk (κ.1.2.1 30) n p0) 0 → CC g M9 α nf nj nm (tκ κ p R) → KH M M9 → AW l g ab_X0 (ab_Z g (ab_Qi (fun x M' => x = (q_num (κ.1.2.1 30) n lo hi p0).1 ∧ CC g M' α nf nj nm (tκ κ ((q_num (κ.1.2.1 30) n lo hi p0).2) R) ∧ KH M M'))) Y_X1_readNumber 1 22 0 0 12 [some (.ref (α 3 0)), some (.int lo), some (.int hi), some (.int (nI (sk (κ.1.2.1 30) n p0))), some (.int (v))] [] M9 := by
    intro k
    induction k with
    | zero =>
      intro p v M9 hk hp hs hC hK
      have e : p = n := by omega
      refine aw_aload_n dX1_readNumber_12 rfl ?_
      refine aw_get dX1_readNumber_13 fg_X1_25_2 hC.2.1.1 rfl ?_
      refine aw_aload_n dX1_readNumber_16 rfl ?_
      refine aw_get dX1_readNumber_17 fg_X1_21_2 hC.2.1.1 rfl ?_
      refine aw_icmp_ge (tgt := 80) dX1_readNumber_20 (by decide) (fun h20 => ?_) (fun h20 => absurd (show κ.1.1 31 ≤ nI p by rw [h31, e]; exact Int32.le_refl _) h20)
      exact fin p v _ hp (by rw [← hs]; exact dc_end (Or.inl (by omega))) hC hK
    | succ k ih =>
      intro p v M9 hk hp hs hC hK
      have hlt : p < n := by omega
      have hin : vp_in (nI p) 50 := vp_in_nI (by omega) (by omega)
      have hcl := nI_cl50 (p := p) (by omega)
      have hvv : (tκ κ p R).1.2.1 30 ((tκ κ p R).1.1 32).toNatClampNeg = κ.1.2.1 30 p := by
        show κ.1.2.1 30 (nI p).toNatClampNeg = _
        rw [hcl]
      have hnot : ¬ κ.1.1 31 ≤ nI p := by rw [h31, nI_le_iff (by omega) (by omega)]; omega
      refine aw_aload_n dX1_readNumber_12 rfl ?_
      refine aw_get dX1_readNumber_13 fg_X1_25_2 hC.2.1.1 rfl ?_
      refine aw_aload_n dX1_readNumber_16 rfl ?_
      refine aw_get dX1_readNumber_17 fg_X1_21_2 hC.2.1.1 rfl ?_
      refine aw_icmp_ge (tgt := 80) dX1_readNumber_20 (by decide) (fun h20 => absurd h20 hnot) (fun h20 => ?_)
      refine aw_aload_n dX1_readNumber_23 rfl ?_
      refine aw_get dX1_readNumber_24 fg_X1_11_2 hC.2.1.1 rfl ?_
      refine aw_aload_n dX1_readNumber_27 rfl ?_
      refine aw_get dX1_readNumber_28 fg_X1_25_2 hC.2.1.1 rfl ?_
      refine aw_iald dX1_readNumber_31 hC.2.1.2.1 hin ?_
      refine aw_bipush (v := 48) dX1_readNumber_32 (by decide) ?_
      refine aw_bipush (v := 57) dX1_readNumber_34 (by decide) ?_
      refine aw_N3i (kc' := 0) (ks' := 0) dX1_readNumber_36 cs_X1_34 c_outside rfl (Nat.le_of_ble_eq_true rfl) (fun x36 M36 h36 => ?_)
      obtain ⟨rfl, e36⟩ := h36
      replace e36 := e36.symm
      subst e36
      rw [q_out_in, hvv]
      refine aw_if_ne (tgt := 80) dX1_readNumber_39 (by decide) (fun h39 => ?_) (fun h39 => ?_)
      · replace h39 := b2i_n.mp h39
        simp at h39
        exact fin p v _ hp (by rw [← hs]; exact dc_end (Or.inr h39)) hC hK
      · replace h39 := b2i_0.mp h39
        simp at h39
        refine aw_bipush (v := 100) dX1_readNumber_42 (by decide) ?_
        refine aw_iload dX1_readNumber_44 rfl ?_
        refine aw_bipush (v := 10) dX1_readNumber_46 (by decide) ?_
        refine aw_imul dX1_readNumber_48 ?_
        refine aw_aload_n dX1_readNumber_49 rfl ?_
        refine aw_get dX1_readNumber_50 fg_X1_11_2 hC.2.1.1 rfl ?_
        refine aw_aload_n dX1_readNumber_53 rfl ?_
        refine aw_get dX1_readNumber_54 fg_X1_25_2 hC.2.1.1 rfl ?_
        refine aw_iald dX1_readNumber_57 hC.2.1.2.1 hin ?_
        refine aw_iadd dX1_readNumber_58 ?_
        refine aw_bipush (v := 48) dX1_readNumber_59 (by decide) ?_
        refine aw_isub dX1_readNumber_61 ?_
        refine aw_S2i (kc' := 0) (ks' := 0) dX1_readNumber_62 cs_X1_67 j_min rfl (Nat.le_of_ble_eq_true rfl) (fun x62 M62 h62 => ?_)
        obtain ⟨rfl, e62⟩ := h62
        replace e62 := e62.symm
        subst e62
        rw [hvv]
        refine aw_istore dX1_readNumber_65 rfl (by decide) ?_
        refine aw_aload_n dX1_readNumber_67 rfl ?_
        refine aw_dup dX1_readNumber_68 rfl ?_
        refine aw_get dX1_readNumber_69 fg_X1_25_2 hC.2.1.1 rfl ?_
        refine aw_iconst (v := 1) dX1_readNumber_72 (by decide) ?_
        refine aw_iadd dX1_readNumber_73 ?_
        refine cw_pA4 dX1_readNumber_74 fl_X1_25_2 hC hK (fun M hC hK => ?_)
        refine aw_goto (tgt := 12) dX1_readNumber_77 (by decide) ?_
        exact ih (p + 1) _ _ (by omega) (by omega) (by rw [← hs, dc_go hlt h39]) (by have h9 := hC; rw [tκ_inc] at h9; exact h9) hK
  have hK : KH M M := KT.rf
  refine aw_aload_n dX1_readNumber_0 rfl ?_
  refine aw_V0v (kc' := 0) (ks' := 0) dX1_readNumber_1 cs_X1_64_2 hC.2.1.1 (c_skipBlanks hC hT hp) rfl (Nat.le_of_ble_eq_true rfl) (fun M1 h1 => ?_)
  obtain ⟨hC, hK1⟩ := h1
  replace hK := hK.tr hK1
  refine aw_aload_n dX1_readNumber_4 rfl ?_
  refine aw_get dX1_readNumber_5 fg_X1_25_2 hC.2.1.1 rfl ?_
  refine aw_istore_n dX1_readNumber_8 rfl (by decide) ?_
  refine aw_iconst (v := 0) dX1_readNumber_9 (by decide) ?_
  refine aw_istore dX1_readNumber_10 rfl (by decide) ?_
  exact key _ (sk (κ.1.2.1 30) n p0) 0 _ rfl hsk.2 rfl hC hK
