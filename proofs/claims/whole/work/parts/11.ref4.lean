/-! ===== the reference's methods, 4: a minute ===== -/
theorem rs_2 {σ : rS} {k : Nat} {v : Int32} : (rs σ k v).2 = σ.2 := rfl
theorem rI_keep {σ : rS} {m j v : Int32} (hI : rI σ) : rI (f_keep2 (f_keep1 σ) m j v) := by
  have e : (f_keep1 σ).1 35 = (if σ.1 35 = 100 then σ.1 35 - 1 else σ.1 35) := by
    unfold f_keep1
    split <;> rfl
  have e2 : ∀ k, k ≠ 35 → (f_keep1 σ).1 k = σ.1 k := by
    intro k hk
    unfold f_keep1
    split
    · simp [rs, upd, hk, (k_shift_sc 594 6 σ).1]
    · rfl
  have e3 : ∀ k, k ≠ 36 → (f_keep1 σ).2.1 k = σ.2.1 k := by
    intro k hk
    unfold f_keep1
    split
    · rw [rs_2]; exact (k_shift_sc 594 6 σ).2.2 k hk
    · rfl
  have h35 : 0 ≤ ((f_keep1 σ).1 35 + 1).toInt ∧ ((f_keep1 σ).1 35 + 1).toInt ≤ 100 := by
    have h := hI.2.2.2.2.1
    rw [e]
    split
    · next h => rw [h]; decide
    · next h2 =>
      have h3 := ne_toInt h2
      rw [show (100 : Int32).toInt = 100 by decide] at h3
      rw [fb_addI (by rw [t_1]; omega) (by rw [t_1]; omega), t_1]
      omega
  have q : ∀ k, k ≠ 35 → (f_keep2 (f_keep1 σ) m j v).1 k = σ.1 k := by
    intro k hk
    rw [← e2 k hk]
    simp [f_keep2, rs, upd, hk, ra]
  have q3 : ∀ k, k ≠ 36 → (f_keep2 (f_keep1 σ) m j v).2.1 k = σ.2.1 k := by
    intro k hk
    rw [← e3 k hk]
    simp [f_keep2, rs, ra, hk]
  have q35 : (f_keep2 (f_keep1 σ) m j v).1 35 = (f_keep1 σ).1 35 + 1 := rfl
  unfold rI
  rw [q 0 (by decide), q 5 (by decide), q 12 (by decide), q 31 (by decide), q35, q3 15 (by decide), q3 16 (by decide), q3 18 (by decide), q3 6 (by decide)]
  exact ⟨hI.1, hI.2.1, hI.2.2.1, hI.2.2.2.1, h35, hI.2.2.2.2.2⟩
theorem keep_sc {σ : rS} {m j v : Int32} : ∀ k, k ≠ 35 → (f_keep2 (f_keep1 σ) m j v).1 k = σ.1 k := by
  intro k hk
  have e2 : (f_keep1 σ).1 k = σ.1 k := by
    unfold f_keep1
    split
    · simp [rs, upd, hk, (k_shift_sc 594 6 σ).1]
    · rfl
  rw [← e2]
  simp [f_keep2, rs, upd, hk, ra]
theorem keep_ar {σ : rS} {m j v : Int32} : ∀ k, k ≠ 36 → (f_keep2 (f_keep1 σ) m j v).2.1 k = σ.2.1 k := by
  intro k hk
  have e3 : (f_keep1 σ).2.1 k = σ.2.1 k := by
    unfold f_keep1
    split
    · rw [rs_2]; exact (k_shift_sc 594 6 σ).2.2 k hk
    · rfl
  rw [← e3]
  simp [f_keep2, rs, ra, hk]
theorem keep_su {σ : rS} {m j v : Int32} : (f_keep2 (f_keep1 σ) m j v).2.2 = σ.2.2 := by
  have e3 : (f_keep1 σ).2.2 = σ.2.2 := by
    unfold f_keep1
    split
    · rw [rs_2]; exact (k_shift_sc 594 6 σ).2.1
    · rfl
  rw [← e3]
  rfl
def q_pv (σ : rS) (m : Int32) : Int32 := q_least (rg σ 21 m) (rg σ 7 (rg σ 16 m) - rg σ 9 (rg σ 16 m))
def f_pour1 (σ : rS) (m j v : Int32) : rS := rl (rl (rp (rp (rp σ 21 m (rg σ 21 m - v)) 9 j (rg σ 9 j + v)) 22 m (rg σ 22 m + v * rg σ 33 (rg σ 6 j))) 3 (σ.2.2 3 + v.toInt64)) 6 (σ.2.2 6 + (v * rg σ 33 (rg σ 6 j)).toInt64)
def f_pour (σ : rS) (m : Int32) : rS := if q_pv σ m ≤ 0 then f_down σ m else f_down (f_keep2 (f_keep1 (f_pour1 σ m (rg σ 16 m) (q_pv σ m))) m (rg σ 16 m) (q_pv σ m)) m
theorem rI_fl {σ : rS} {j : Int32} (hI : rI σ) (hj : vp_in j 8) : vp_in (rg σ 6 j) 10 := by
  have := hI.2.2.2.2.2.2.2.2 _ (clamp_lt hj).1
  rw [vp_in_iff]
  refine ⟨this.1, ?_⟩
  show (σ.2.1 6 j.toNatClampNeg).toInt < _
  omega
theorem mI_keep {σ : rS} {m j v a : Int32} (h : mI σ a) : mI (f_keep2 (f_keep1 σ) m j v) a := by
  unfold mI
  rw [keep_sc 12 (by decide)]
  exact h
set_option maxRecDepth 100000 in
set_option maxHeartbeats 4000000 in
theorem r_pour {l : Launch} {g : ab_G} {M : ab_M} {a0 : Nat} {ρ : Nat → Nat} {σ : rS} (hR : RR g M a0 ρ σ) (hI : rI σ) {m : Int32} (hm : mI σ m) : AM l g Y_X9_pour 2 45 0 0 [.ref a0, .int m] M (ab_Qv (fun M' => RR g M' a0 ρ (f_pour σ m) ∧ KR M M')) := by
  refine AM.of [some (.ref a0), some (.int m), none, none] (by decide +kernel) (Nat.le_of_ble_eq_true rfl) rfl ?_
  have hm1 := mI_in hI hm
  have hj1 := rI_J hI hm1
  have hfl := rI_fl hI hj1
  have hK : KR M M := KR.rf
  refine aw_aload_n dX9_pour_0 rfl ?_
  refine aw_get dX9_pour_1 fg_X9_50_10 hR.1 rfl ?_
  refine aw_iload_n dX9_pour_4 rfl ?_
  refine aw_iald dX9_pour_5 (rr_16 hR) (by first | assumption | (unfold vp_in; decide)) ?_
  refine aw_istore_n dX9_pour_6 rfl (by decide) ?_
  refine aw_aload_n dX9_pour_7 rfl ?_
  refine aw_get dX9_pour_8 fg_X9_65_10 hR.1 rfl ?_
  refine aw_iload_n dX9_pour_11 rfl ?_
  refine aw_iald dX9_pour_12 (rr_21 hR) (by first | assumption | (unfold vp_in; decide)) ?_
  refine aw_aload_n dX9_pour_13 rfl ?_
  refine aw_get dX9_pour_14 fg_X9_26_10 hR.1 rfl ?_
  refine aw_iload_n dX9_pour_17 rfl ?_
  refine aw_iald dX9_pour_18 (rr_7 hR) (by first | assumption | (unfold vp_in; decide)) ?_
  refine aw_aload_n dX9_pour_19 rfl ?_
  refine aw_get dX9_pour_20 fg_X9_32_10 hR.1 rfl ?_
  refine aw_iload_n dX9_pour_23 rfl ?_
  refine aw_iald dX9_pour_24 (rr_9 hR) (by first | assumption | (unfold vp_in; decide)) ?_
  refine aw_isub dX9_pour_25 ?_
  refine aw_S2i (kc' := 0) (ks' := 0) dX9_pour_26 cs_X9_175 r_least rfl (Nat.le_of_ble_eq_true rfl) (fun x26 M26 h26 => ?_)
  obtain ⟨rfl, rfl⟩ := h26
  refine aw_istore_n dX9_pour_29 rfl (by decide) ?_
  refine aw_iload_n dX9_pour_30 rfl ?_
  refine aw_if_le (tgt := 118) dX9_pour_31 (by decide) (fun h31 => ?_) (fun h31 => ?_)
  · refine aw_aload_n dX9_pour_118 rfl ?_
    refine aw_iload_n dX9_pour_119 rfl ?_
    refine aw_V1v (kc' := 0) (ks' := 0) dX9_pour_120 cs_X9_192_10 hR.1 (r_goDown hR hI hm) rfl (Nat.le_of_ble_eq_true rfl) (fun M120 h120 => ?_)
    obtain ⟨hR, hK120⟩ := h120
    replace hK := hK.tr hK120
    exact aw_vret dX9_pour_123 rfl ⟨by rw [f_pour, if_pos (show q_pv σ m ≤ 0 from h31)]; exact hR, hK⟩
  · refine aw_aload_n dX9_pour_34 rfl ?_
    refine aw_get dX9_pour_35 fg_X9_65_10 hR.1 rfl ?_
    refine aw_iload_n dX9_pour_38 rfl ?_
    refine aw_dup2 dX9_pour_39 rfl rfl ?_
    refine aw_iald dX9_pour_40 (rr_21 hR) (by first | assumption | (unfold vp_in; decide)) ?_
    refine aw_iload_n dX9_pour_41 rfl ?_
    refine aw_isub dX9_pour_42 ?_
    refine rw_iast_21 dX9_pour_43 (by first | assumption | (unfold vp_in; decide)) hR hK (fun M hR hK => ?_)
    refine aw_aload_n dX9_pour_44 rfl ?_
    refine aw_get dX9_pour_45 fg_X9_32_10 hR.1 rfl ?_
    refine aw_iload_n dX9_pour_48 rfl ?_
    refine aw_dup2 dX9_pour_49 rfl rfl ?_
    refine aw_iald dX9_pour_50 (rr_9 hR) (by first | assumption | (unfold vp_in; decide)) ?_
    refine aw_iload_n dX9_pour_51 rfl ?_
    refine aw_iadd dX9_pour_52 ?_
    refine rw_iast_9 dX9_pour_53 (by first | assumption | (unfold vp_in; decide)) hR hK (fun M hR hK => ?_)
    refine aw_aload_n dX9_pour_54 rfl ?_
    refine aw_get dX9_pour_55 fg_X9_68_10 hR.1 rfl ?_
    refine aw_iload_n dX9_pour_58 rfl ?_
    refine aw_dup2 dX9_pour_59 rfl rfl ?_
    refine aw_iald dX9_pour_60 (rr_22 hR) (by first | assumption | (unfold vp_in; decide)) ?_
    refine aw_iload_n dX9_pour_61 rfl ?_
    refine aw_aload_n dX9_pour_62 rfl ?_
    refine aw_get dX9_pour_63 fg_X9_91_10 hR.1 rfl ?_
    refine aw_aload_n dX9_pour_66 rfl ?_
    refine aw_get dX9_pour_67 fg_X9_23_10 hR.1 rfl ?_
    refine aw_iload_n dX9_pour_70 rfl ?_
    refine aw_iald dX9_pour_71 (rr_6 hR) (by first | assumption | (unfold vp_in; decide)) ?_
    refine aw_iald dX9_pour_72 (rr_33 hR) (by first | assumption | (unfold vp_in; decide)) ?_
    refine aw_imul dX9_pour_73 ?_
    refine aw_iadd dX9_pour_74 ?_
    refine rw_iast_22 dX9_pour_75 (by first | assumption | (unfold vp_in; decide)) hR hK (fun M hR hK => ?_)
    refine aw_aload_n dX9_pour_76 rfl ?_
    refine aw_get dX9_pour_77 fg_X9_84_10 hR.1 rfl ?_
    refine aw_iconst (v := 3) dX9_pour_80 (by decide) ?_
    refine aw_dup2 dX9_pour_81 rfl rfl ?_
    refine aw_lald dX9_pour_82 (rr_29 hR) (by first | assumption | (unfold vp_in; decide)) ?_
    refine aw_iload_n dX9_pour_83 rfl ?_
    refine aw_i2l dX9_pour_84 ?_
    refine aw_ladd dX9_pour_85 ?_
    refine rw_last_29 dX9_pour_86 (by first | assumption | (unfold vp_in; decide)) hR hK (fun M hR hK => ?_)
    refine aw_aload_n dX9_pour_87 rfl ?_
    refine aw_get dX9_pour_88 fg_X9_84_10 hR.1 rfl ?_
    refine aw_bipush (v := 6) dX9_pour_91 (by decide) ?_
    refine aw_dup2 dX9_pour_93 rfl rfl ?_
    refine aw_lald dX9_pour_94 (rr_29 hR) (by first | assumption | (unfold vp_in; decide)) ?_
    refine aw_iload_n dX9_pour_95 rfl ?_
    refine aw_aload_n dX9_pour_96 rfl ?_
    refine aw_get dX9_pour_97 fg_X9_91_10 hR.1 rfl ?_
    refine aw_aload_n dX9_pour_100 rfl ?_
    refine aw_get dX9_pour_101 fg_X9_23_10 hR.1 rfl ?_
    refine aw_iload_n dX9_pour_104 rfl ?_
    refine aw_iald dX9_pour_105 (rr_6 hR) (by first | assumption | (unfold vp_in; decide)) ?_
    refine aw_iald dX9_pour_106 (rr_33 hR) (by first | assumption | (unfold vp_in; decide)) ?_
    refine aw_imul dX9_pour_107 ?_
    refine aw_i2l dX9_pour_108 ?_
    refine aw_ladd dX9_pour_109 ?_
    refine rw_last_29 dX9_pour_110 (by first | assumption | (unfold vp_in; decide)) hR hK (fun M hR hK => ?_)
    refine aw_aload_n dX9_pour_111 rfl ?_
    refine aw_iload_n dX9_pour_112 rfl ?_
    refine aw_iload_n dX9_pour_113 rfl ?_
    refine aw_iload_n dX9_pour_114 rfl ?_
    refine aw_V3v (kc' := 0) (ks' := 0) dX9_pour_115 cs_X9_188_10 hR.1 (r_keep hR (show rI σ from hI) hm1) rfl (Nat.le_of_ble_eq_true rfl) (fun M115 h115 => ?_)
    obtain ⟨hR, hK115⟩ := h115
    replace hK := hK.tr hK115
    refine aw_aload_n dX9_pour_118 rfl ?_
    refine aw_iload_n dX9_pour_119 rfl ?_
    refine aw_V1v (kc' := 0) (ks' := 0) dX9_pour_120 cs_X9_192_10 hR.1 (r_goDown hR (rI_keep (show rI σ from hI)) (mI_keep (show mI σ m from hm))) rfl (Nat.le_of_ble_eq_true rfl) (fun M120 h120 => ?_)
    obtain ⟨hR, hK120⟩ := h120
    replace hK := hK.tr hK120
    exact aw_vret dX9_pour_123 rfl ⟨by rw [f_pour, if_neg (show ¬ q_pv σ m ≤ 0 from h31)]; exact hR, hK⟩
def k_first (σ : rS) (f : Int32) (i : Nat) (s : Int32) : Int32 := if ((decide (σ.2.1 19 i = 0) && decide (σ.2.1 15 i = f)) && (decide (s < 0) || q_ahead σ (nI i) s)) = true then nI i else s
def q_first (σ : rS) (f : Int32) : Int32 := lp (k_first σ f) 0 (σ.1 12).toNatClampNeg (-1)
def q_fv (σ : rS) (f s : Int32) : Int32 := q_least (q_least (rg σ 2 f) (rg σ 14 s - rg σ 21 s)) 10
def f_fill1 (σ : rS) (f s : Int32) : rS := if q_fv σ f s ≤ 0 then σ else rp (rp (rl (rp (rp σ 2 f (rg σ 2 f - q_fv σ f s)) 21 s (rg σ 21 s + q_fv σ f s)) 2 (σ.2.2 2 + (q_fv σ f s).toInt64)) 24 s f) 25 s (σ.1 28)
def f_fill2 (σ : rS) (s : Int32) : rS := if rg σ 21 s = rg σ 14 s then rp (rp σ 19 s 1) 20 s (q_way (rp σ 19 s 1) s (rg σ 16 s) 1) else σ
def f_fill (σ : rS) (f : Int32) : rS := if 0 ≤ q_first σ f then f_fill2 (f_fill1 σ f (q_first σ f)) (q_first σ f) else σ
theorem nI_cl {n : Nat} (h : n < 2 ^ 31) : (nI n).toNatClampNeg = n := nI_clamp h
def fI (nm : Nat) (s : Int32) : Prop := s = -1 ∨ ∃ k : Nat, k < nm ∧ s = nI k
theorem fI_step {σ : rS} {f : Int32} {i N : Nat} {s : Int32} (h : fI N s) (hi : i < N) : fI N (k_first σ f i s) := by
  unfold k_first
  split
  · exact Or.inr ⟨i, hi, rfl⟩
  · exact h
theorem rI_nm {σ : rS} (hI : rI σ) : ∃ n : Nat, n ≤ 10 ∧ σ.1 12 = nI n ∧ (σ.1 12).toNatClampNeg = n := by
  have h := hI.2.2.1
  refine ⟨(σ.1 12).toNatClampNeg, ?_, ?_, rfl⟩
  · have e : (σ.1 12).toNatClampNeg = (σ.1 12).toInt.toNat := rfl
    omega
  · have e : (σ.1 12).toNatClampNeg = (σ.1 12).toInt.toNat := rfl
    apply Int32.toInt_inj.mp
    rw [nI_toInt (by omega)]
    omega
set_option maxRecDepth 100000 in
set_option maxHeartbeats 4000000 in
theorem r_fill {l : Launch} {g : ab_G} {M : ab_M} {a0 : Nat} {ρ : Nat → Nat} {σ : rS} (hR : RR g M a0 ρ σ) (hI : rI σ) {f : Int32} (hf : vp_in f 4) : AM l g Y_X9_fill 1 24 0 0 [.ref a0, .int f] M (ab_Qv (fun M' => RR g M' a0 ρ (f_fill σ f) ∧ KR M M')) := by
  refine AM.of [some (.ref a0), some (.int f), none, none, none] (by decide +kernel) (Nat.le_of_ble_eq_true rfl) rfl ?_
  have fin2 : ∀ (M9 : ab_M) (s : Int32) (z3 z4 : Option Value), mI σ s → vp_in s 10 → vp_in (rg σ 16 s) 8 → rP g a0 ρ M (f_fill1 σ f s) M9 → AW l g ab_X0 (ab_Z g (ab_Qv (fun M' => RR g M' a0 ρ (f_fill2 (f_fill1 σ f s) s) ∧ KR M M'))) Y_X9_fill 1 24 0 0 153 [some (.ref a0), some (.int f), some (.int s), z3, z4] [] M9 := by
    rintro M9 s z3 z4 hs hs1 hj1 ⟨hR, hK⟩
    have hI2 : rI (f_fill1 σ f s) := by unfold f_fill1; split <;> exact hI
    have hs2 : mI (f_fill1 σ f s) s := by unfold f_fill1; split <;> exact hs
    have hj2 : vp_in (rg (f_fill1 σ f s) 16 s) 8 := by unfold f_fill1; split <;> exact hj1
    unfold f_fill2
    generalize f_fill1 σ f s = σ1 at *
    refine aw_aload_n dX9_fill_153 rfl ?_
    refine aw_get dX9_fill_154 fg_X9_65_10 hR.1 rfl ?_
    refine aw_iload_n dX9_fill_157 rfl ?_
    refine aw_iald dX9_fill_158 (rr_21 hR) (by first | assumption | (unfold vp_in; decide)) ?_
    refine aw_aload_n dX9_fill_159 rfl ?_
    refine aw_get dX9_fill_160 fg_X9_44_10 hR.1 rfl ?_
    refine aw_iload_n dX9_fill_163 rfl ?_
    refine aw_iald dX9_fill_164 (rr_14 hR) (by first | assumption | (unfold vp_in; decide)) ?_
    refine aw_icmp_ne (tgt := 193) dX9_fill_165 (by decide) (fun h165 => ?_) (fun h165 => ?_)
    · exact aw_vret dX9_fill_193 rfl ⟨by first | (rw [if_pos h165]; exact hR) | (rw [if_neg h165]; exact hR), hK⟩
    · refine aw_aload_n dX9_fill_168 rfl ?_
      refine aw_get dX9_fill_169 fg_X9_59_10 hR.1 rfl ?_
      refine aw_iload_n dX9_fill_172 rfl ?_
      refine aw_iconst (v := 1) dX9_fill_173 (by decide) ?_
      refine rw_iast_19 dX9_fill_174 (by first | assumption | (unfold vp_in; decide)) hR hK (fun M hR hK => ?_)
      refine aw_aload_n dX9_fill_175 rfl ?_
      refine aw_get dX9_fill_176 fg_X9_62_10 hR.1 rfl ?_
      refine aw_iload_n dX9_fill_179 rfl ?_
      refine aw_aload_n dX9_fill_180 rfl ?_
      refine aw_iload_n dX9_fill_181 rfl ?_
      refine aw_aload_n dX9_fill_182 rfl ?_
      refine aw_get dX9_fill_183 fg_X9_50_10 hR.1 rfl ?_
      refine aw_iload_n dX9_fill_186 rfl ?_
      refine aw_iald dX9_fill_187 (rr_16 hR) (by first | assumption | (unfold vp_in; decide)) ?_
      refine aw_iconst (v := 1) dX9_fill_188 (by decide) ?_
      refine aw_V3i (kc' := 0) (ks' := 0) dX9_fill_189 cs_X9_181_10 hR.1 (r_wayOf hR (show rI σ1 from hI2) (show mI σ1 s from hs2) hj2) rfl (Nat.le_of_ble_eq_true rfl) (fun x189 M189 h189 => ?_)
      obtain ⟨rfl, rfl⟩ := h189
      refine rw_iast_20 dX9_fill_192 (by first | assumption | (unfold vp_in; decide)) hR hK (fun M hR hK => ?_)
      exact aw_vret dX9_fill_193 rfl ⟨by first | (rw [if_pos h165]; exact hR) | (rw [if_neg h165]; exact hR), hK⟩
  obtain ⟨N, hN10, hN, hNc⟩ := rI_nm hI
  have fin : ∀ (M9 : ab_M) (z3 z4 : Option Value), rP g a0 ρ M σ M9 → fI N (q_first σ f) → AW l g ab_X0 (ab_Z g (ab_Qv (fun M' => RR g M' a0 ρ (f_fill σ f) ∧ KR M M'))) Y_X9_fill 1 24 0 0 68 [some (.ref a0), some (.int f), some (.int (q_first σ f)), z3, z4] [] M9 := by
    rintro M9 z3 z4 ⟨hR, hK⟩ hq
    unfold f_fill
    generalize q_first σ f = s at hq ⊢
    refine aw_iload_n dX9_fill_68 rfl ?_
    refine aw_if_ge (tgt := 73) dX9_fill_69 (by decide) (fun h69 => ?_) (fun h69 => ?_)
    · have hs : mI σ s := by
        rcases hq with rfl | ⟨k, hk, rfl⟩
        · exact absurd h69 (by decide)
        · unfold mI; rw [nI_toInt (by omega), hN, nI_toInt (by omega)]; omega
      have hs1 := mI_in hI hs
      have hj1 := rI_J hI hs1
      rw [if_pos h69]
      refine aw_aload_n dX9_fill_73 rfl ?_
      refine aw_get dX9_fill_74 fg_X9_13_10 hR.1 rfl ?_
      refine aw_iload_n dX9_fill_77 rfl ?_
      refine aw_iald dX9_fill_78 (rr_2 hR) (by first | assumption | (unfold vp_in; decide)) ?_
      refine aw_aload_n dX9_fill_79 rfl ?_
      refine aw_get dX9_fill_80 fg_X9_44_10 hR.1 rfl ?_
      refine aw_iload_n dX9_fill_83 rfl ?_
      refine aw_iald dX9_fill_84 (rr_14 hR) (by first | assumption | (unfold vp_in; decide)) ?_
      refine aw_aload_n dX9_fill_85 rfl ?_
      refine aw_get dX9_fill_86 fg_X9_65_10 hR.1 rfl ?_
      refine aw_iload_n dX9_fill_89 rfl ?_
      refine aw_iald dX9_fill_90 (rr_21 hR) (by first | assumption | (unfold vp_in; decide)) ?_
      refine aw_isub dX9_fill_91 ?_
      refine aw_S2i (kc' := 0) (ks' := 0) dX9_fill_92 cs_X9_175 r_least rfl (Nat.le_of_ble_eq_true rfl) (fun x92 M92 h92 => ?_)
      obtain ⟨rfl, rfl⟩ := h92
      refine aw_bipush (v := 10) dX9_fill_95 (by decide) ?_
      refine aw_S2i (kc' := 0) (ks' := 0) dX9_fill_97 cs_X9_175 r_least rfl (Nat.le_of_ble_eq_true rfl) (fun x97 M97 h97 => ?_)
      obtain ⟨rfl, rfl⟩ := h97
      refine aw_istore_n dX9_fill_100 rfl (by decide) ?_
      refine aw_iload_n dX9_fill_101 rfl ?_
      refine aw_if_le (tgt := 153) dX9_fill_102 (by decide) (fun h102 => ?_) (fun h102 => ?_)
      · exact fin2 _ s _ _ hs hs1 hj1 ⟨by rw [f_fill1, if_pos (show q_fv σ f s ≤ 0 from h102)]; exact hR, hK⟩
      · refine aw_aload_n dX9_fill_105 rfl ?_
        refine aw_get dX9_fill_106 fg_X9_13_10 hR.1 rfl ?_
        refine aw_iload_n dX9_fill_109 rfl ?_
        refine aw_dup2 dX9_fill_110 rfl rfl ?_
        refine aw_iald dX9_fill_111 (rr_2 hR) (by first | assumption | (unfold vp_in; decide)) ?_
        refine aw_iload_n dX9_fill_112 rfl ?_
        refine aw_isub dX9_fill_113 ?_
        refine rw_iast_2 dX9_fill_114 (by first | assumption | (unfold vp_in; decide)) hR hK (fun M hR hK => ?_)
        refine aw_aload_n dX9_fill_115 rfl ?_
        refine aw_get dX9_fill_116 fg_X9_65_10 hR.1 rfl ?_
        refine aw_iload_n dX9_fill_119 rfl ?_
        refine aw_dup2 dX9_fill_120 rfl rfl ?_
        refine aw_iald dX9_fill_121 (rr_21 hR) (by first | assumption | (unfold vp_in; decide)) ?_
        refine aw_iload_n dX9_fill_122 rfl ?_
        refine aw_iadd dX9_fill_123 ?_
        refine rw_iast_21 dX9_fill_124 (by first | assumption | (unfold vp_in; decide)) hR hK (fun M hR hK => ?_)
        refine aw_aload_n dX9_fill_125 rfl ?_
        refine aw_get dX9_fill_126 fg_X9_84_10 hR.1 rfl ?_
        refine aw_iconst (v := 2) dX9_fill_129 (by decide) ?_
        refine aw_dup2 dX9_fill_130 rfl rfl ?_
        refine aw_lald dX9_fill_131 (rr_29 hR) (by first | assumption | (unfold vp_in; decide)) ?_
        refine aw_iload_n dX9_fill_132 rfl ?_
        refine aw_i2l dX9_fill_133 ?_
        refine aw_ladd dX9_fill_134 ?_
        refine rw_last_29 dX9_fill_135 (by first | assumption | (unfold vp_in; decide)) hR hK (fun M hR hK => ?_)
        refine aw_aload_n dX9_fill_136 rfl ?_
        refine aw_get dX9_fill_137 fg_X9_74_10 hR.1 rfl ?_
        refine aw_iload_n dX9_fill_140 rfl ?_
        refine aw_iload_n dX9_fill_141 rfl ?_
        refine rw_iast_24 dX9_fill_142 (by first | assumption | (unfold vp_in; decide)) hR hK (fun M hR hK => ?_)
        refine aw_aload_n dX9_fill_143 rfl ?_
        refine aw_get dX9_fill_144 fg_X9_77_10 hR.1 rfl ?_
        refine aw_iload_n dX9_fill_147 rfl ?_
        refine aw_aload_n dX9_fill_148 rfl ?_
        refine aw_get dX9_fill_149 fg_X9_178_10 hR.1 rfl ?_
        refine rw_iast_25 dX9_fill_152 (by first | assumption | (unfold vp_in; decide)) hR hK (fun M hR hK => ?_)
        exact fin2 _ s _ _ hs hs1 hj1 ⟨by rw [f_fill1, if_neg (show ¬ q_fv σ f s ≤ 0 from h102)]; exact hR, hK⟩
    · rw [if_neg h69]
      exact aw_vret dX9_fill_72 rfl ⟨hR, hK⟩
  refine aw_iconst (v := -1) dX9_fill_0 (by decide) ?_
  refine aw_istore_n dX9_fill_1 rfl (by decide) ?_
  refine aw_iconst (v := 0) dX9_fill_2 (by decide) ?_
  refine aw_istore_n dX9_fill_3 rfl (by decide) ?_
  refine gl (fun _ M9 => rP g a0 ρ M σ M9) (fun i s M9 => ∀ z4 : Option Value, AW l g ab_X0 (ab_Z g (ab_Qv (fun M' => RR g M' a0 ρ (f_fill σ f) ∧ KR M M'))) Y_X9_fill 1 24 0 0 4 [some (.ref a0), some (.int f), some (.int s), some (.int (nI i)), z4] [] M9) (k_first σ f) (fun i s => fI N s) N (fun i s h1 h2 => fI_step h2 h1) ?_ N 0 (-1) M (Nat.zero_add _) (Or.inl rfl) ⟨hR, KR.rf⟩ ?_ none
  · intro i s M9 h1 h2 hp kk z4
    obtain ⟨hR, hK⟩ := hp
    have hi : vp_in (nI i) 10 := vp_in_nI (by omega) (by omega)
    have hci := nI_cl (n := i) (by omega)
    have kk : ∀ (z5 : Option Value) (s9 : Int32), s9 = k_first σ f i s → AW l g ab_X0 (ab_Z g (ab_Qv (fun M' => RR g M' a0 ρ (f_fill σ f) ∧ KR M M'))) Y_X9_fill 1 24 0 0 4 [some (.ref a0), some (.int f), some (.int s9), some (.int (nI (i + 1))), z5] [] M9 := fun z5 s9 e9 => by rw [e9]; exact kk M9 ⟨hR, hK⟩ (fI_step h2 h1) z5
    refine aw_iload_n dX9_fill_4 rfl ?_
    refine aw_aload_n dX9_fill_5 rfl ?_
    refine aw_get dX9_fill_6 fg_X9_126_10 hR.1 rfl ?_
    refine aw_icmp_ge (tgt := 68) dX9_fill_9 (by decide) (fun h9 => absurd (show σ.1 12 ≤ nI i from h9) (by rw [hN]; exact nI_ge h1 (by omega))) (fun h9 => ?_)
    refine aw_aload_n dX9_fill_12 rfl ?_
    refine aw_get dX9_fill_13 fg_X9_59_10 hR.1 rfl ?_
    refine aw_iload_n dX9_fill_16 rfl ?_
    refine aw_iald dX9_fill_17 (rr_19 hR) (by first | assumption | (unfold vp_in; decide)) ?_
    refine aw_if_ne (tgt := 35) dX9_fill_18 (by decide) (fun h18 => ?_) (fun h18 => ?_)
    · refine aw_iconst (v := 0) dX9_fill_35 (by decide) ?_
      refine aw_istore dX9_fill_36 rfl (by decide) ?_
      refine aw_iload dX9_fill_38 rfl ?_
      refine aw_if_eq (tgt := 60) dX9_fill_40 (by decide) (fun h40 => ?_) (fun h40 => ?_)
      · refine aw_iload_n dX9_fill_60 rfl ?_
        refine aw_istore_n dX9_fill_61 rfl (by decide) ?_
        refine aw_iinc dX9_fill_62 rfl (ii_1 i) rfl (by decide) ?_
        refine aw_goto (tgt := 4) dX9_fill_65 (by decide) ?_
        exact kk _ _ (by unfold k_first; split <;> simp_all [rg, -Int32.not_lt, -Int32.not_le])
      · refine aw_iload_n dX9_fill_43 rfl ?_
        refine aw_if_lt (tgt := 56) dX9_fill_44 (by decide) (fun h44 => ?_) (fun h44 => ?_)
        · refine aw_iload_n dX9_fill_56 rfl ?_
          refine aw_goto (tgt := 61) dX9_fill_57 (by decide) ?_
          refine aw_istore_n dX9_fill_61 rfl (by decide) ?_
          refine aw_iinc dX9_fill_62 rfl (ii_1 i) rfl (by decide) ?_
          refine aw_goto (tgt := 4) dX9_fill_65 (by decide) ?_
          exact kk _ _ (by unfold k_first; split <;> simp_all [rg, -Int32.not_lt, -Int32.not_le])
        · have hsv : vp_in s 10 := by
            rcases h2 with rfl | ⟨k, hk, rfl⟩
            · exact absurd (by decide) h44
            · exact vp_in_nI (by omega) (by omega)
          refine aw_aload_n dX9_fill_47 rfl ?_
          refine aw_iload_n dX9_fill_48 rfl ?_
          refine aw_iload_n dX9_fill_49 rfl ?_
          refine aw_V2i (kc' := 0) (ks' := 0) dX9_fill_50 cs_X9_172_10 hR.1 (r_isAhead hR hi hsv) rfl (Nat.le_of_ble_eq_true rfl) (fun x50 M50 h50 => ?_)
          obtain ⟨rfl, rfl⟩ := h50
          refine aw_if_eq (tgt := 60) dX9_fill_53 (by decide) (fun h53 => ?_) (fun h53 => ?_)
          · replace h53 := b2i_0.mp h53
            refine aw_iload_n dX9_fill_60 rfl ?_
            refine aw_istore_n dX9_fill_61 rfl (by decide) ?_
            refine aw_iinc dX9_fill_62 rfl (ii_1 i) rfl (by decide) ?_
            refine aw_goto (tgt := 4) dX9_fill_65 (by decide) ?_
            exact kk _ _ (by unfold k_first; split <;> simp_all [rg, -Int32.not_lt, -Int32.not_le])
          · replace h53 := b2i_n.mp h53
            refine aw_iload_n dX9_fill_56 rfl ?_
            refine aw_goto (tgt := 61) dX9_fill_57 (by decide) ?_
            refine aw_istore_n dX9_fill_61 rfl (by decide) ?_
            refine aw_iinc dX9_fill_62 rfl (ii_1 i) rfl (by decide) ?_
            refine aw_goto (tgt := 4) dX9_fill_65 (by decide) ?_
            exact kk _ _ (by unfold k_first; split <;> simp_all [rg, -Int32.not_lt, -Int32.not_le])
    · refine aw_aload_n dX9_fill_21 rfl ?_
      refine aw_get dX9_fill_22 fg_X9_47_10 hR.1 rfl ?_
      refine aw_iload_n dX9_fill_25 rfl ?_
      refine aw_iald dX9_fill_26 (rr_15 hR) (by first | assumption | (unfold vp_in; decide)) ?_
      refine aw_iload_n dX9_fill_27 rfl ?_
      refine aw_icmp_ne (tgt := 35) dX9_fill_28 (by decide) (fun h28 => ?_) (fun h28 => ?_)
      · refine aw_iconst (v := 0) dX9_fill_35 (by decide) ?_
        refine aw_istore dX9_fill_36 rfl (by decide) ?_
        refine aw_iload dX9_fill_38 rfl ?_
        refine aw_if_eq (tgt := 60) dX9_fill_40 (by decide) (fun h40 => ?_) (fun h40 => ?_)
        · refine aw_iload_n dX9_fill_60 rfl ?_
          refine aw_istore_n dX9_fill_61 rfl (by decide) ?_
          refine aw_iinc dX9_fill_62 rfl (ii_1 i) rfl (by decide) ?_
          refine aw_goto (tgt := 4) dX9_fill_65 (by decide) ?_
          exact kk _ _ (by unfold k_first; split <;> simp_all [rg, -Int32.not_lt, -Int32.not_le])
        · refine aw_iload_n dX9_fill_43 rfl ?_
          refine aw_if_lt (tgt := 56) dX9_fill_44 (by decide) (fun h44 => ?_) (fun h44 => ?_)
          · refine aw_iload_n dX9_fill_56 rfl ?_
            refine aw_goto (tgt := 61) dX9_fill_57 (by decide) ?_
            refine aw_istore_n dX9_fill_61 rfl (by decide) ?_
            refine aw_iinc dX9_fill_62 rfl (ii_1 i) rfl (by decide) ?_
            refine aw_goto (tgt := 4) dX9_fill_65 (by decide) ?_
            exact kk _ _ (by unfold k_first; split <;> simp_all [rg, -Int32.not_lt, -Int32.not_le])
          · have hsv : vp_in s 10 := by
              rcases h2 with rfl | ⟨k, hk, rfl⟩
              · exact absurd (by decide) h44
              · exact vp_in_nI (by omega) (by omega)
            refine aw_aload_n dX9_fill_47 rfl ?_
            refine aw_iload_n dX9_fill_48 rfl ?_
            refine aw_iload_n dX9_fill_49 rfl ?_
            refine aw_V2i (kc' := 0) (ks' := 0) dX9_fill_50 cs_X9_172_10 hR.1 (r_isAhead hR hi hsv) rfl (Nat.le_of_ble_eq_true rfl) (fun x50 M50 h50 => ?_)
            obtain ⟨rfl, rfl⟩ := h50
            refine aw_if_eq (tgt := 60) dX9_fill_53 (by decide) (fun h53 => ?_) (fun h53 => ?_)
            · replace h53 := b2i_0.mp h53
              refine aw_iload_n dX9_fill_60 rfl ?_
              refine aw_istore_n dX9_fill_61 rfl (by decide) ?_
              refine aw_iinc dX9_fill_62 rfl (ii_1 i) rfl (by decide) ?_
              refine aw_goto (tgt := 4) dX9_fill_65 (by decide) ?_
              exact kk _ _ (by unfold k_first; split <;> simp_all [rg, -Int32.not_lt, -Int32.not_le])
            · replace h53 := b2i_n.mp h53
              refine aw_iload_n dX9_fill_56 rfl ?_
              refine aw_goto (tgt := 61) dX9_fill_57 (by decide) ?_
              refine aw_istore_n dX9_fill_61 rfl (by decide) ?_
              refine aw_iinc dX9_fill_62 rfl (ii_1 i) rfl (by decide) ?_
              refine aw_goto (tgt := 4) dX9_fill_65 (by decide) ?_
              exact kk _ _ (by unfold k_first; split <;> simp_all [rg, -Int32.not_lt, -Int32.not_le])
      · refine aw_iconst (v := 1) dX9_fill_31 (by decide) ?_
        refine aw_goto (tgt := 36) dX9_fill_32 (by decide) ?_
        refine aw_istore dX9_fill_36 rfl (by decide) ?_
        refine aw_iload dX9_fill_38 rfl ?_
        refine aw_if_eq (tgt := 60) dX9_fill_40 (by decide) (fun h40 => ?_) (fun h40 => ?_)
        · refine aw_iload_n dX9_fill_60 rfl ?_
          refine aw_istore_n dX9_fill_61 rfl (by decide) ?_
          refine aw_iinc dX9_fill_62 rfl (ii_1 i) rfl (by decide) ?_
          refine aw_goto (tgt := 4) dX9_fill_65 (by decide) ?_
          exact kk _ _ (by unfold k_first; split <;> simp_all [rg, -Int32.not_lt, -Int32.not_le])
        · refine aw_iload_n dX9_fill_43 rfl ?_
          refine aw_if_lt (tgt := 56) dX9_fill_44 (by decide) (fun h44 => ?_) (fun h44 => ?_)
          · refine aw_iload_n dX9_fill_56 rfl ?_
            refine aw_goto (tgt := 61) dX9_fill_57 (by decide) ?_
            refine aw_istore_n dX9_fill_61 rfl (by decide) ?_
            refine aw_iinc dX9_fill_62 rfl (ii_1 i) rfl (by decide) ?_
            refine aw_goto (tgt := 4) dX9_fill_65 (by decide) ?_
            exact kk _ _ (by unfold k_first; split <;> simp_all [rg, -Int32.not_lt, -Int32.not_le])
          · have hsv : vp_in s 10 := by
              rcases h2 with rfl | ⟨k, hk, rfl⟩
              · exact absurd (by decide) h44
              · exact vp_in_nI (by omega) (by omega)
            refine aw_aload_n dX9_fill_47 rfl ?_
            refine aw_iload_n dX9_fill_48 rfl ?_
            refine aw_iload_n dX9_fill_49 rfl ?_
            refine aw_V2i (kc' := 0) (ks' := 0) dX9_fill_50 cs_X9_172_10 hR.1 (r_isAhead hR hi hsv) rfl (Nat.le_of_ble_eq_true rfl) (fun x50 M50 h50 => ?_)
            obtain ⟨rfl, rfl⟩ := h50
            refine aw_if_eq (tgt := 60) dX9_fill_53 (by decide) (fun h53 => ?_) (fun h53 => ?_)
            · replace h53 := b2i_0.mp h53
              refine aw_iload_n dX9_fill_60 rfl ?_
              refine aw_istore_n dX9_fill_61 rfl (by decide) ?_
              refine aw_iinc dX9_fill_62 rfl (ii_1 i) rfl (by decide) ?_
              refine aw_goto (tgt := 4) dX9_fill_65 (by decide) ?_
              exact kk _ _ (by unfold k_first; split <;> simp_all [rg, -Int32.not_lt, -Int32.not_le])
            · replace h53 := b2i_n.mp h53
              refine aw_iload_n dX9_fill_56 rfl ?_
              refine aw_goto (tgt := 61) dX9_fill_57 (by decide) ?_
              refine aw_istore_n dX9_fill_61 rfl (by decide) ?_
              refine aw_iinc dX9_fill_62 rfl (ii_1 i) rfl (by decide) ?_
              refine aw_goto (tgt := 4) dX9_fill_65 (by decide) ?_
              exact kk _ _ (by unfold k_first; split <;> simp_all [rg, -Int32.not_lt, -Int32.not_le])
  · intro M9 hp hq z4
    obtain ⟨hR, hK⟩ := hp
    have hq2 : lp (k_first σ f) 0 N (-1) = q_first σ f := by rw [q_first, hNc]
    rw [hq2] at hq ⊢
    refine aw_iload_n dX9_fill_4 rfl ?_
    refine aw_aload_n dX9_fill_5 rfl ?_
    refine aw_get dX9_fill_6 fg_X9_126_10 hR.1 rfl ?_
    refine aw_icmp_ge (tgt := 68) dX9_fill_9 (by decide) (fun h9 => ?_) (fun h9 => absurd (show σ.1 12 ≤ nI N by rw [hN]; exact Int32.le_refl _) h9)
    exact fin _ _ _ ⟨hR, hK⟩ hq
