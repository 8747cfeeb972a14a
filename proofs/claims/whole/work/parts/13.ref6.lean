/-! ===== the reference's methods, 6 ===== -/
theorem rK_lp {φ : Nat → rS → rS} (h : ∀ i σ, rK σ (φ i σ)) (n i : Nat) (σ : rS) : rK σ (lp φ i n σ) :=
  lp_inv (φ := φ) (fun _ s => rK σ s) n i σ rK.rf (fun j s _ _ h2 => h2.tr (h j s))
theorem rK_minute {σ : rS} : rK σ (f_minute σ) := by
  unfold f_minute m_1 m_2 m_3 m_4 m_5
  refine rK.tr ?_ (⟨fun h => h, rfl, rfl, rfl⟩ : rK _ (rs _ 28 _))
  exact ((((rK_lp (fun _ _ => rK_going) _ _ _).tr (rK_lp (fun _ _ => rK_kflow) _ _ _)).tr (rK_lp (fun _ _ => rK_kfill) _ _ _)).tr (rK_lp (fun _ _ => rK_walk) _ _ _)).tr (rK_lp (fun _ _ => rK_drink) _ _ _)
def k_min (_ : Nat) (σ : rS) : rS := f_minute σ
def f_run (σ : rS) (n : Int32) : Int32 × rS := if q_in n 1 500 = true then (if σ.1 28 + n ≤ 20000 then ((lp k_min 0 n.toNatClampNeg σ).1 28, lp k_min 0 n.toNatClampNeg σ) else (-3, σ)) else (-1, σ)
theorem in_nat {n lo hi : Int32} {b : Nat} (h : q_in n lo hi = true) (h0 : 0 ≤ lo.toInt) (h1 : hi.toInt = b) (hb : b < 2147483648) : ∃ k : Nat, k ≤ b ∧ n = nI k := by
  have h2 := q_in_iff.mp h
  refine ⟨n.toInt.toNat, by omega, ?_⟩
  apply Int32.toInt_inj.mp
  rw [nI_toInt (by omega)]
  omega
def q_ans (c : Bool) : Int32 := if c then 1 else 0
def k_ah (σ : rS) (m : Int32) (i : Nat) (s : Int32) : Int32 := s + b2i ((decide (rg σ 19 (nI i) = 0) && decide (rg σ 15 (nI i) = rg σ 15 m)) && q_ahead σ (nI i) m)
def f_told (σ : rS) (m w : Int32) : Int32 := if q_isM σ m = true then (if w = 0 then rg σ 19 m else if w = 1 then (if rg σ 19 m = 0 then lp (k_ah σ m) 0 (σ.1 12).toNatClampNeg 0 else rg σ 20 m) else if w = 2 then rg σ 21 m else if w = 3 then rg σ 22 m else if w = 4 then rg σ 15 m else if w = 5 then rg σ 16 m else if w = 6 then q_way σ m (rg σ 16 m) 1 else if w = 7 then q_way σ m (rg σ 16 m) 0 else if w = 8 then rg σ 13 m else -1) else -1
def k_cnt (σ : rS) (w : Int32) (i : Nat) (s : Int32) : Int32 := s + b2i (decide (rg σ 19 (nI i) = w - 3))
def f_count (σ : rS) (w : Int32) : Int32 := if w = 0 then σ.1 0 else if w = 1 then σ.1 5 else if w = 2 then σ.1 12 else if w = 3 then lp (k_cnt σ w) 0 (σ.1 12).toNatClampNeg 0 else if w = 4 then lp (k_cnt σ w) 0 (σ.1 12).toNatClampNeg 0 else if w = 5 then lp (k_cnt σ w) 0 (σ.1 12).toNatClampNeg 0 else if w = 6 then σ.1 35 else -1
def k_foul (σ : rS) (f t : Int32) (i : Nat) (s : Int32) : Int32 := s ||| (if (decide (rg σ 36 (6 * nI i + 4) = f) && !decide (rg σ 36 (6 * nI i + 5) < t)) = true then 1 <<< (rg σ 36 (6 * nI i + 1) &&& 31) else 0)
def f_foul (σ : rS) (f t : Int32) : Int32 := if (q_isF σ f && decide (0 ≤ t)) = true then lp (k_foul σ f t) 0 (σ.1 35).toNatClampNeg 0 else -1
def k_ones (b : Int32) (i : Nat) (s : Int32) : Int32 := s + (b >>> (nI i &&& 31) &&& 1)
def q_ones (b : Int32) : Int32 := lp (k_ones b) 0 6 0
def f_poured (σ : rS) (i w : Int32) : Int32 := if (!decide (i < 0) && q_in w 0 5) = true then (if i < σ.1 35 then rg σ 36 (6 * (σ.1 35 - 1 - i) + w) else -4) else -1
def k_fire (j w : Int32) (i : Nat) (s : Int32 × rS) : Int32 × rS := if ((decide (rg s.2 19 (nI i) = 1) && decide (rg s.2 16 (nI i) = j)) && !decide (w < rg s.2 20 (nI i))) = true then (s.1 + rg s.2 21 (nI i), f_down (rp s.2 21 (nI i) 0) (nI i)) else s
def q_fire (σ : rS) (j w : Int32) : Int32 × rS := lp (k_fire j w) 0 (σ.1 12).toNatClampNeg (0, σ)
def f_fire (σ : rS) (j w : Int32) : Int32 × rS := if (q_isJ σ j && q_in w 0 60) = true then ((q_fire σ j w).1, rl (q_fire σ j w).2 5 ((q_fire σ j w).2.2.2 5 + (q_fire σ j w).1.toInt64)) else (-1, σ)
theorem rI_np {σ : rS} (hI : rI σ) : ∃ n : Nat, n ≤ 100 ∧ σ.1 35 = nI n ∧ (σ.1 35).toNatClampNeg = n := by
  have h := hI.2.2.2.2.1
  have e : (σ.1 35).toNatClampNeg = (σ.1 35).toInt.toNat := rfl
  refine ⟨(σ.1 35).toNatClampNeg, by omega, ?_, rfl⟩
  apply Int32.toInt_inj.mp
  rw [nI_toInt (by omega)]
  omega
theorem rK_fire {j w : Int32} {i : Nat} {s : Int32 × rS} : rK s.2 (k_fire j w i s).2 := by
  unfold k_fire
  split
  · exact rK.tr (τ := rp s.2 21 (nI i) 0) ⟨fun h => h, rfl, rfl, rfl⟩ rK_down
  · exact rK.rf
set_option maxRecDepth 100000 in
set_option maxHeartbeats 4000000 in
theorem r_run {l : Launch} {g : ab_G} {M : ab_M} {a0 : Nat} {ρ : Nat → Nat} {σ : rS} (hR : RR g M a0 ρ σ) (hI : rI σ) {n : Int32} : AM l g Y_X9_run 4 90 0 0 [.ref a0, .int n] M (ab_Qi (fun x M' => x = (f_run σ n).1 ∧ RR g M' a0 ρ (f_run σ n).2 ∧ KR M M')) := by
  refine AM.of [some (.ref a0), some (.int n), none] (by decide +kernel) (Nat.le_of_ble_eq_true rfl) rfl ?_
  have hK : KR M M := KR.rf
  refine aw_iload_n dX9_run_0 rfl ?_
  refine aw_iconst (v := 1) dX9_run_1 (by decide) ?_
  refine aw_sipush (v := 500) dX9_run_2 (by decide) ?_
  refine aw_S3i (kc' := 0) (ks' := 0) dX9_run_5 cs_X9_112 r_in rfl (Nat.le_of_ble_eq_true rfl) (fun x5 M5 h5 => ?_)
  obtain ⟨rfl, e5⟩ := h5
  replace e5 := e5.symm
  subst e5
  refine aw_if_ne (tgt := 13) dX9_run_8 (by decide) (fun h8 => ?_) (fun h8 => ?_)
  · replace h8 := b2i_n.mp h8
    refine aw_aload_n dX9_run_13 rfl ?_
    refine aw_get dX9_run_14 fg_X9_178_10 hR.1 rfl ?_
    refine aw_iload_n dX9_run_17 rfl ?_
    refine aw_iadd dX9_run_18 ?_
    refine aw_sipush (v := 20000) dX9_run_19 (by decide) ?_
    refine aw_icmp_le (tgt := 28) dX9_run_22 (by decide) (fun h22 => ?_) (fun h22 => ?_)
    · refine aw_iconst (v := 0) dX9_run_28 (by decide) ?_
      refine aw_istore_n dX9_run_29 rfl (by decide) ?_
      obtain ⟨N, hN5, rfl⟩ := in_nat (b := 500) h8 (by decide) (by decide) (by decide)
      have hNc : (nI N).toNatClampNeg = N := nI_cl (by omega)
      refine gl (rP g a0 ρ M) (fun i s M9 => AW l g ab_X0 (ab_Z g (ab_Qi (fun x M' => x = (f_run σ (nI N)).1 ∧ RR g M' a0 ρ (f_run σ (nI N)).2 ∧ KR M M'))) Y_X9_run 4 90 0 0 30 [some (.ref a0), some (.int (nI N)), some (.int (nI i))] [] M9) k_min (fun _ s => rK σ s) N (fun i s _ h => h.tr rK_minute) ?_ N 0 σ M (Nat.zero_add _) rK.rf ⟨hR, KR.rf⟩ ?_
      · intro i s M9 h1 hk hp kk
        obtain ⟨hR, hK⟩ := id hp
        refine aw_iload_n dX9_run_30 rfl ?_
        refine aw_iload_n dX9_run_31 rfl ?_
        refine aw_icmp_ge (tgt := 45) dX9_run_32 (by decide) (fun h32 => absurd h32 (nI_ge h1 (by omega))) (fun h32 => ?_)
        refine aw_aload_n dX9_run_35 rfl ?_
        refine aw_V0v (kc' := 0) (ks' := 0) dX9_run_36 cs_X9_204_10 hR.1 (r_minute hR (hk.1 hI)) rfl (Nat.le_of_ble_eq_true rfl) (fun M36 h36 => ?_)
        obtain ⟨hR, hK36⟩ := h36
        replace hK := hK.tr hK36
        refine aw_iinc dX9_run_39 rfl (ii_1 i) rfl (by decide) ?_
        refine aw_goto (tgt := 30) dX9_run_42 (by decide) ?_
        exact kk _ ⟨hR, hK⟩ (hk.tr rK_minute)
      · intro M9 hp hk
        obtain ⟨hR, hK⟩ := id hp
        refine aw_iload_n dX9_run_30 rfl ?_
        refine aw_iload_n dX9_run_31 rfl ?_
        refine aw_icmp_ge (tgt := 45) dX9_run_32 (by decide) (fun h32 => ?_) (fun h32 => absurd (Int32.le_refl _) h32)
        refine aw_aload_n dX9_run_45 rfl ?_
        refine aw_get dX9_run_46 fg_X9_178_10 hR.1 rfl ?_
        exact aw_iret dX9_run_49 rfl (by rw [f_run, if_pos h8, if_pos (show σ.1 28 + nI N ≤ 20000 from h22), hNc]; exact ⟨rfl, hR, hK⟩)
    · refine aw_bipush (v := -3) dX9_run_25 (by decide) ?_
      exact aw_iret dX9_run_27 rfl (by refine ⟨?_, ?_, hK⟩ <;> simp only [f_run, *, ↓reduceIte, Bool.false_eq_true, Bool.and_self, Bool.and_true, Bool.and_false, Bool.false_and, Bool.true_and, Bool.or_true, Bool.true_or, Bool.or_false, Bool.false_or, reduceCtorEq, not_true_eq_false, not_false_eq_true] <;> first | rfl | exact hR)
  · replace h8 := b2i_0.mp h8
    refine aw_iconst (v := -1) dX9_run_11 (by decide) ?_
    exact aw_iret dX9_run_12 rfl (by refine ⟨?_, ?_, hK⟩ <;> simp only [f_run, *, ↓reduceIte, Bool.false_eq_true, Bool.and_self, Bool.and_true, Bool.and_false, Bool.false_and, Bool.true_and, Bool.or_true, Bool.true_or, Bool.or_false, Bool.false_or, reduceCtorEq, not_true_eq_false, not_false_eq_true] <;> first | rfl | exact hR)
set_option maxRecDepth 100000 in
set_option maxHeartbeats 4000000 in
theorem r_ones {l : Launch} {g : ab_G} {M : ab_M} {b : Int32} : AM l g Y_X9_ones 0 0 0 0 [.int b] M (ab_Qi (fun x M' => x = q_ones b ∧ M' = M)) := by
  refine AM.of [some (.int b), none, none] (by decide +kernel) (Nat.le_of_ble_eq_true rfl) rfl ?_
  refine aw_iconst (v := 0) dX9_ones_0 (by decide) ?_
  refine aw_istore_n dX9_ones_1 rfl (by decide) ?_
  refine aw_iconst (v := 0) dX9_ones_2 (by decide) ?_
  refine aw_istore_n dX9_ones_3 rfl (by decide) ?_
  refine gl (fun _ M9 => M9 = M) (fun i s M9 => AW l g ab_X0 (ab_Z g (ab_Qi (fun x M' => x = q_ones b ∧ M' = M))) Y_X9_ones 0 0 0 0 4 [some (.int b), some (.int s), some (.int (nI i))] [] M9) (k_ones b) (fun _ _ => True) 6 (fun _ _ _ _ => trivial) ?_ 6 0 0 M rfl trivial rfl ?_
  · intro i s M9 h1 _ hp kk
    subst hp
    refine aw_iload_n dX9_ones_4 rfl ?_
    refine aw_bipush (v := 6) dX9_ones_5 (by decide) ?_
    refine aw_icmp_ge (tgt := 24) dX9_ones_7 (by decide) (fun h7 => absurd h7 (by rw [show (6 : Int32) = nI 6 from rfl]; exact nI_ge h1 (by omega))) (fun h7 => ?_)
    refine aw_iload_n dX9_ones_10 rfl ?_
    refine aw_iload_n dX9_ones_11 rfl ?_
    refine aw_iload_n dX9_ones_12 rfl ?_
    refine aw_ishr dX9_ones_13 ?_
    refine aw_iconst (v := 1) dX9_ones_14 (by decide) ?_
    refine aw_iand dX9_ones_15 ?_
    refine aw_iadd dX9_ones_16 ?_
    refine aw_istore_n dX9_ones_17 rfl (by decide) ?_
    refine aw_iinc dX9_ones_18 rfl (ii_1 i) rfl (by decide) ?_
    refine aw_goto (tgt := 4) dX9_ones_21 (by decide) ?_
    exact kk _ rfl trivial
  · intro M9 hp _
    subst hp
    refine aw_iload_n dX9_ones_4 rfl ?_
    refine aw_bipush (v := 6) dX9_ones_5 (by decide) ?_
    refine aw_icmp_ge (tgt := 24) dX9_ones_7 (by decide) (fun h7 => ?_) (fun h7 => absurd (by rw [show (6 : Int32) = nI 6 from rfl]; exact Int32.le_refl _) h7)
    refine aw_iload_n dX9_ones_24 rfl ?_
    exact aw_iret dX9_ones_25 rfl ⟨rfl, rfl⟩
theorem in_poured {σ : rS} {i w : Int32} (hI : rI σ) (h0 : ¬ i < 0) (hw : q_in w 0 5 = true) (h : i < σ.1 35) : vp_in (6 * (σ.1 35 - 1 - i) + w) 600 := by
  have h35 := hI.2.2.2.2.1
  have h1 := q_in_iff.mp hw
  have h2 : 0 ≤ i.toInt := by
    have := h0
    rw [Int32.lt_iff_toInt_lt, t_0] at this
    omega
  rw [Int32.lt_iff_toInt_lt] at h
  have e1 := t_sub1 h35.1
  have e2 : (σ.1 35 - 1 - i).toInt = (σ.1 35).toInt - 1 - i.toInt := by rw [fb_subI (by omega) (by omega), e1]
  have t6 : (6 : Int32).toInt = 6 := by decide
  have t5 : (5 : Int32).toInt = 5 := by decide
  rw [t_0, t5] at h1
  have e3 : (6 * (σ.1 35 - 1 - i)).toInt = 6 * ((σ.1 35).toInt - 1 - i.toInt) := by rw [fb_mulI (by rw [t6]; omega) (by rw [t6]; omega), t6, e2]
  rw [vp_in_iff, fb_addI (by omega) (by omega), e3]
  omega
set_option maxRecDepth 100000 in
set_option maxHeartbeats 4000000 in
theorem r_poured {l : Launch} {g : ab_G} {M : ab_M} {a0 : Nat} {ρ : Nat → Nat} {σ : rS} (hR : RR g M a0 ρ σ) (hI : rI σ) {i w : Int32} : AM l g Y_X9_poured 1 22 0 0 [.ref a0, .int i, .int w] M (ab_Qi (fun x M' => x = f_poured σ i w ∧ M' = M)) := by
  refine AM.of [some (.ref a0), some (.int i), some (.int w)] (by decide +kernel) (Nat.le_of_ble_eq_true rfl) rfl ?_
  refine aw_iload_n dX9_poured_0 rfl ?_
  refine aw_if_lt (tgt := 13) dX9_poured_1 (by decide) (fun h1 => ?_) (fun h1 => ?_)
  · refine aw_iconst (v := -1) dX9_poured_13 (by decide) ?_
    exact aw_iret dX9_poured_14 rfl ⟨by first | (simp only [f_poured, *, ↓reduceIte, Bool.false_eq_true, Bool.and_self, Bool.and_true, Bool.and_false, Bool.false_and, Bool.true_and, Bool.or_true, Bool.true_or, Bool.or_false, Bool.false_or, reduceCtorEq, not_true_eq_false, not_false_eq_true]; done) | (subst_vars; simp_all [f_poured, rg, -Int32.not_lt, -Int32.not_le]; done), rfl⟩
  · refine aw_iload_n dX9_poured_4 rfl ?_
    refine aw_iconst (v := 0) dX9_poured_5 (by decide) ?_
    refine aw_iconst (v := 5) dX9_poured_6 (by decide) ?_
    refine aw_S3i (kc' := 0) (ks' := 0) dX9_poured_7 cs_X9_112 r_in rfl (Nat.le_of_ble_eq_true rfl) (fun x7 M7 h7 => ?_)
    obtain ⟨rfl, e7⟩ := h7
    replace e7 := e7.symm
    subst e7
    refine aw_if_ne (tgt := 15) dX9_poured_10 (by decide) (fun h10 => ?_) (fun h10 => ?_)
    · replace h10 := b2i_n.mp h10
      refine aw_iload_n dX9_poured_15 rfl ?_
      refine aw_aload_n dX9_poured_16 rfl ?_
      refine aw_get dX9_poured_17 fg_X9_185_10 hR.1 rfl ?_
      refine aw_icmp_lt (tgt := 28) dX9_poured_20 (by decide) (fun h20 => ?_) (fun h20 => ?_)
      · have hv := in_poured hI h1 h10 h20
        refine aw_aload_n dX9_poured_28 rfl ?_
        refine aw_get dX9_poured_29 fg_X9_97_10 hR.1 rfl ?_
        refine aw_bipush (v := 6) dX9_poured_32 (by decide) ?_
        refine aw_aload_n dX9_poured_34 rfl ?_
        refine aw_get dX9_poured_35 fg_X9_185_10 hR.1 rfl ?_
        refine aw_iconst (v := 1) dX9_poured_38 (by decide) ?_
        refine aw_isub dX9_poured_39 ?_
        refine aw_iload_n dX9_poured_40 rfl ?_
        refine aw_isub dX9_poured_41 ?_
        refine aw_imul dX9_poured_42 ?_
        refine aw_iload_n dX9_poured_43 rfl ?_
        refine aw_iadd dX9_poured_44 ?_
        refine aw_iald dX9_poured_45 (rr_36 hR) (by first | assumption | (unfold vp_in; decide)) ?_
        exact aw_iret dX9_poured_46 rfl ⟨by first | (simp only [f_poured, *, ↓reduceIte, Bool.false_eq_true, Bool.and_self, Bool.and_true, Bool.and_false, Bool.false_and, Bool.true_and, Bool.or_true, Bool.true_or, Bool.or_false, Bool.false_or, reduceCtorEq, not_true_eq_false, not_false_eq_true]; done) | (subst_vars; simp_all [f_poured, rg, -Int32.not_lt, -Int32.not_le]; done), rfl⟩
      · refine aw_bipush (v := -4) dX9_poured_23 (by decide) ?_
        refine aw_goto (tgt := 46) dX9_poured_25 (by decide) ?_
        exact aw_iret dX9_poured_46 rfl ⟨by first | (simp only [f_poured, *, ↓reduceIte, Bool.false_eq_true, Bool.and_self, Bool.and_true, Bool.and_false, Bool.false_and, Bool.true_and, Bool.or_true, Bool.true_or, Bool.or_false, Bool.false_or, reduceCtorEq, not_true_eq_false, not_false_eq_true]; done) | (subst_vars; simp_all [f_poured, rg, -Int32.not_lt, -Int32.not_le]; done), rfl⟩
    · replace h10 := b2i_0.mp h10
      refine aw_iconst (v := -1) dX9_poured_13 (by decide) ?_
      exact aw_iret dX9_poured_14 rfl ⟨by first | (simp only [f_poured, *, ↓reduceIte, Bool.false_eq_true, Bool.and_self, Bool.and_true, Bool.and_false, Bool.false_and, Bool.true_and, Bool.or_true, Bool.true_or, Bool.or_false, Bool.false_or, reduceCtorEq, not_true_eq_false, not_false_eq_true]; done) | (subst_vars; simp_all [f_poured, rg, -Int32.not_lt, -Int32.not_le]; done), rfl⟩
set_option maxRecDepth 100000 in
set_option maxHeartbeats 4000000 in
theorem r_fire {l : Launch} {g : ab_G} {M : ab_M} {a0 : Nat} {ρ : Nat → Nat} {σ : rS} (hR : RR g M a0 ρ σ) (hI : rI σ) {j w : Int32} : AM l g Y_X9_fire 2 45 0 0 [.ref a0, .int j, .int w] M (ab_Qi (fun x M' => x = (f_fire σ j w).1 ∧ RR g M' a0 ρ (f_fire σ j w).2 ∧ KR M M')) := by
  refine AM.of [some (.ref a0), some (.int j), some (.int w), none, none] (by decide +kernel) (Nat.le_of_ble_eq_true rfl) rfl ?_
  have hK : KR M M := KR.rf
  refine aw_aload_n dX9_fire_0 rfl ?_
  refine aw_iload_n dX9_fire_1 rfl ?_
  refine aw_V1i (kc' := 0) (ks' := 0) dX9_fire_2 cs_X9_129_10 hR.1 (r_isJar hR) rfl (Nat.le_of_ble_eq_true rfl) (fun x2 M2 h2 => ?_)
  obtain ⟨rfl, e2⟩ := h2
  replace e2 := e2.symm
  subst e2
  refine aw_if_eq (tgt := 18) dX9_fire_5 (by decide) (fun h5 => ?_) (fun h5 => ?_)
  · replace h5 := b2i_0.mp h5
    refine aw_iconst (v := -1) dX9_fire_18 (by decide) ?_
    exact aw_iret dX9_fire_19 rfl (by refine ⟨?_, ?_, hK⟩ <;> simp only [f_fire, *, ↓reduceIte, Bool.false_eq_true, Bool.and_self, Bool.and_true, Bool.and_false, Bool.false_and, Bool.true_and, Bool.or_true, Bool.true_or, Bool.or_false, Bool.false_or, reduceCtorEq, not_true_eq_false, not_false_eq_true] <;> first | rfl | exact hR)
  · replace h5 := b2i_n.mp h5
    refine aw_iload_n dX9_fire_8 rfl ?_
    refine aw_iconst (v := 0) dX9_fire_9 (by decide) ?_
    refine aw_bipush (v := 60) dX9_fire_10 (by decide) ?_
    refine aw_S3i (kc' := 0) (ks' := 0) dX9_fire_12 cs_X9_112 r_in rfl (Nat.le_of_ble_eq_true rfl) (fun x12 M12 h12 => ?_)
    obtain ⟨rfl, e12⟩ := h12
    replace e12 := e12.symm
    subst e12
    refine aw_if_ne (tgt := 20) dX9_fire_15 (by decide) (fun h15 => ?_) (fun h15 => ?_)
    · replace h15 := b2i_n.mp h15
      refine aw_iconst (v := 0) dX9_fire_20 (by decide) ?_
      refine aw_istore_n dX9_fire_21 rfl (by decide) ?_
      refine aw_iconst (v := 0) dX9_fire_22 (by decide) ?_
      refine aw_istore dX9_fire_23 rfl (by decide) ?_
      have hff : f_fire σ j w = ((q_fire σ j w).1, rl (q_fire σ j w).2 5 ((q_fire σ j w).2.2.2 5 + (q_fire σ j w).1.toInt64)) := by rw [f_fire, if_pos (by rw [h5, h15]; rfl)]
      obtain ⟨N, hN10, hN, hNc⟩ := rI_nm hI
      have hq : q_fire σ j w = lp (k_fire j w) 0 N (0, σ) := by rw [q_fire, hNc]
      refine gl (fun s M9 => rP g a0 ρ M s.2 M9) (fun i s M9 => AW l g ab_X0 (ab_Z g (ab_Qi (fun x M' => x = (f_fire σ j w).1 ∧ RR g M' a0 ρ (f_fire σ j w).2 ∧ KR M M'))) Y_X9_fire 2 45 0 0 25 [some (.ref a0), some (.int j), some (.int w), some (.int s.1), some (.int (nI i))] [] M9) (k_fire j w) (fun _ s => rK σ s.2) N (fun i s _ h => h.tr rK_fire) ?_ N 0 (0, σ) _ (Nat.zero_add _) rK.rf ⟨hR, hK⟩ ?_
      · rintro i ⟨s, τ⟩ M9 h1 hk hp kk
        obtain ⟨hR, hK⟩ := id hp
        have hI2 : rI τ := hk.1 hI
        have hn : τ.1 12 = nI N := hk.2.2.2.trans hN
        have hi : vp_in (nI i) 10 := vp_in_nI (by omega) (by omega)
        have hmi : mI τ (nI i) := by unfold mI; rw [nI_toInt (by omega), hn, nI_toInt (by omega)]; omega
        have kk : ∀ (M9 : ab_M) (s9 : Int32) (τ9 : rS), (s9, τ9) = k_fire j w i (s, τ) → RR g M9 a0 ρ τ9 → KR M M9 → AW l g ab_X0 (ab_Z g (ab_Qi (fun x M' => x = (f_fire σ j w).1 ∧ RR g M' a0 ρ (f_fire σ j w).2 ∧ KR M M'))) Y_X9_fire 2 45 0 0 25 [some (.ref a0), some (.int j), some (.int w), some (.int s9), some (.int (nI (i + 1)))] [] M9 := fun M9 s9 τ9 e9 h1 h2 => by
          have := kk M9 (by rw [← e9]; exact ⟨h1, h2⟩) (by rw [← e9]; exact hk.tr (by have := rK_fire (j := j) (w := w) (i := i) (s := (s, τ)); rw [← e9] at this; exact this))
          rw [← e9] at this
          exact this
        refine aw_iload dX9_fire_25 rfl ?_
        refine aw_aload_n dX9_fire_27 rfl ?_
        refine aw_get dX9_fire_28 fg_X9_126_10 hR.1 rfl ?_
        refine aw_icmp_ge (tgt := 97) dX9_fire_31 (by decide) (fun h31 => absurd (show τ.1 12 ≤ nI i from h31) (by rw [hn]; exact nI_ge h1 (by omega))) (fun h31 => ?_)
        refine aw_aload_n dX9_fire_34 rfl ?_
        refine aw_get dX9_fire_35 fg_X9_59_10 hR.1 rfl ?_
        refine aw_iload dX9_fire_38 rfl ?_
        refine aw_iald dX9_fire_40 (rr_19 hR) (by first | assumption | (unfold vp_in; decide)) ?_
        refine aw_iconst (v := 1) dX9_fire_41 (by decide) ?_
        refine aw_icmp_ne (tgt := 91) dX9_fire_42 (by decide) (fun h42 => ?_) (fun h42 => ?_)
        · refine aw_iinc dX9_fire_91 rfl (ii_1 i) rfl (by decide) ?_
          refine aw_goto (tgt := 25) dX9_fire_94 (by decide) ?_
          exact kk _ _ _ (by unfold k_fire; split <;> simp_all [rg, -Int32.not_lt, -Int32.not_le]) hR hK
        · refine aw_aload_n dX9_fire_45 rfl ?_
          refine aw_get dX9_fire_46 fg_X9_50_10 hR.1 rfl ?_
          refine aw_iload dX9_fire_49 rfl ?_
          refine aw_iald dX9_fire_51 (rr_16 hR) (by first | assumption | (unfold vp_in; decide)) ?_
          refine aw_iload_n dX9_fire_52 rfl ?_
          refine aw_icmp_ne (tgt := 91) dX9_fire_53 (by decide) (fun h53 => ?_) (fun h53 => ?_)
          · refine aw_iinc dX9_fire_91 rfl (ii_1 i) rfl (by decide) ?_
            refine aw_goto (tgt := 25) dX9_fire_94 (by decide) ?_
            exact kk _ _ _ (by unfold k_fire; split <;> simp_all [rg, -Int32.not_lt, -Int32.not_le]) hR hK
          · refine aw_aload_n dX9_fire_56 rfl ?_
            refine aw_get dX9_fire_57 fg_X9_62_10 hR.1 rfl ?_
            refine aw_iload dX9_fire_60 rfl ?_
            refine aw_iald dX9_fire_62 (rr_20 hR) (by first | assumption | (unfold vp_in; decide)) ?_
            refine aw_iload_n dX9_fire_63 rfl ?_
            refine aw_icmp_gt (tgt := 91) dX9_fire_64 (by decide) (fun h64 => ?_) (fun h64 => ?_)
            · refine aw_iinc dX9_fire_91 rfl (ii_1 i) rfl (by decide) ?_
              refine aw_goto (tgt := 25) dX9_fire_94 (by decide) ?_
              exact kk _ _ _ (by unfold k_fire; split <;> simp_all [rg, -Int32.not_lt, -Int32.not_le]) hR hK
            · refine aw_iload_n dX9_fire_67 rfl ?_
              refine aw_aload_n dX9_fire_68 rfl ?_
              refine aw_get dX9_fire_69 fg_X9_65_10 hR.1 rfl ?_
              refine aw_iload dX9_fire_72 rfl ?_
              refine aw_iald dX9_fire_74 (rr_21 hR) (by first | assumption | (unfold vp_in; decide)) ?_
              refine aw_iadd dX9_fire_75 ?_
              refine aw_istore_n dX9_fire_76 rfl (by decide) ?_
              refine aw_aload_n dX9_fire_77 rfl ?_
              refine aw_get dX9_fire_78 fg_X9_65_10 hR.1 rfl ?_
              refine aw_iload dX9_fire_81 rfl ?_
              refine aw_iconst (v := 0) dX9_fire_83 (by decide) ?_
              refine rw_iast_21 dX9_fire_84 (by first | assumption | (unfold vp_in; decide)) hR hK (fun M hR hK => ?_)
              refine aw_aload_n dX9_fire_85 rfl ?_
              refine aw_iload dX9_fire_86 rfl ?_
              refine aw_V1v (kc' := 0) (ks' := 0) dX9_fire_88 cs_X9_192_10 hR.1 (r_goDown hR (show rI τ from hI2) (show mI τ (nI i) from hmi)) rfl (Nat.le_of_ble_eq_true rfl) (fun M88 h88 => ?_)
              obtain ⟨hR, hK88⟩ := h88
              replace hK := hK.tr hK88
              refine aw_iinc dX9_fire_91 rfl (ii_1 i) rfl (by decide) ?_
              refine aw_goto (tgt := 25) dX9_fire_94 (by decide) ?_
              exact kk _ _ _ (by unfold k_fire; split <;> simp_all [rg, -Int32.not_lt, -Int32.not_le]) hR hK
      · intro M9 hp hk
        rw [← hq] at hp hk ⊢
        obtain ⟨hR, hK⟩ := id hp
        have hn : (q_fire σ j w).2.1 12 = nI N := hk.2.2.2.trans hN
        rw [hff]
        generalize q_fire σ j w = s at *
        refine aw_iload dX9_fire_25 rfl ?_
        refine aw_aload_n dX9_fire_27 rfl ?_
        refine aw_get dX9_fire_28 fg_X9_126_10 hR.1 rfl ?_
        refine aw_icmp_ge (tgt := 97) dX9_fire_31 (by decide) (fun h31 => ?_) (fun h31 => absurd (show s.2.1 12 ≤ nI N by rw [hn]; exact Int32.le_refl _) h31)
        refine aw_aload_n dX9_fire_97 rfl ?_
        refine aw_get dX9_fire_98 fg_X9_84_10 hR.1 rfl ?_
        refine aw_iconst (v := 5) dX9_fire_101 (by decide) ?_
        refine aw_dup2 dX9_fire_102 rfl rfl ?_
        refine aw_lald dX9_fire_103 (rr_29 hR) (by first | assumption | (unfold vp_in; decide)) ?_
        refine aw_iload_n dX9_fire_104 rfl ?_
        refine aw_i2l dX9_fire_105 ?_
        refine aw_ladd dX9_fire_106 ?_
        refine rw_last_29 dX9_fire_107 (by first | assumption | (unfold vp_in; decide)) hR hK (fun M hR hK => ?_)
        refine aw_iload_n dX9_fire_108 rfl ?_
        exact aw_iret dX9_fire_109 rfl ⟨rfl, hR, hK⟩
    · replace h15 := b2i_0.mp h15
      refine aw_iconst (v := -1) dX9_fire_18 (by decide) ?_
      exact aw_iret dX9_fire_19 rfl (by refine ⟨?_, ?_, hK⟩ <;> simp only [f_fire, *, ↓reduceIte, Bool.false_eq_true, Bool.and_self, Bool.and_true, Bool.and_false, Bool.false_and, Bool.true_and, Bool.or_true, Bool.true_or, Bool.or_false, Bool.false_or, reduceCtorEq, not_true_eq_false, not_false_eq_true] <;> first | rfl | exact hR)
