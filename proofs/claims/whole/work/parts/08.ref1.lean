/-! ===== the reference's methods, 1 ===== -/
def q_in (v lo hi : Int32) : Bool := decide (lo ≤ v) && decide (v ≤ hi)
def q_least (a b : Int32) : Int32 := if a < b then a else b
def q_isF (σ : rS) (f : Int32) : Bool := q_in f 0 (σ.1 0 - 1)
def q_isJ (σ : rS) (f : Int32) : Bool := q_in f 0 (σ.1 5 - 1)
def q_isM (σ : rS) (f : Int32) : Bool := q_in f 0 (σ.1 12 - 1)
def rI (σ : rS) : Prop := (0 ≤ (σ.1 0).toInt ∧ (σ.1 0).toInt ≤ 4) ∧ (0 ≤ (σ.1 5).toInt ∧ (σ.1 5).toInt ≤ 8) ∧ (0 ≤ (σ.1 12).toInt ∧ (σ.1 12).toInt ≤ 10) ∧ (0 ≤ (σ.1 31).toInt ∧ (σ.1 31).toInt ≤ 50) ∧ (0 ≤ (σ.1 35).toInt ∧ (σ.1 35).toInt ≤ 100) ∧
  (∀ m, m < 10 → 0 ≤ (σ.2.1 15 m).toInt ∧ (σ.2.1 15 m).toInt < 4) ∧ (∀ m, m < 10 → 0 ≤ (σ.2.1 16 m).toInt ∧ (σ.2.1 16 m).toInt < 8) ∧ (∀ m : Nat, (m : Int) < (σ.1 12).toInt → 1 ≤ (σ.2.1 18 m).toInt ∧ (σ.2.1 18 m).toInt ≤ 5) ∧ (∀ j, j < 8 → 0 ≤ (σ.2.1 6 j).toInt ∧ (σ.2.1 6 j).toInt ≤ 9)
theorem q_in_iff {v lo hi : Int32} : q_in v lo hi = true ↔ lo.toInt ≤ v.toInt ∧ v.toInt ≤ hi.toInt := by
  simp [q_in, Int32.le_iff_toInt_le]
theorem t_0 : (0 : Int32).toInt = 0 := by decide
theorem t_1 : (1 : Int32).toInt = 1 := by decide
theorem t_sub1 {x : Int32} (h : 0 ≤ x.toInt) : (x - 1).toInt = x.toInt - 1 := by
  have := fb_rng x
  rw [fb_subI (by rw [t_1]; omega) (by rw [t_1]; omega), t_1]
theorem isF_in {σ : rS} {j : Int32} (hI : rI σ) (h : q_isF σ j = true) : vp_in j 4 := by
  have h1 := q_in_iff.mp h
  have h2 := hI.1
  rw [vp_in_iff]
  rw [t_0, t_sub1 h2.1] at h1
  omega
theorem isJ_in {σ : rS} {j : Int32} (hI : rI σ) (h : q_isJ σ j = true) : vp_in j 8 := by
  have h1 := q_in_iff.mp h
  have h2 := hI.2.1
  rw [vp_in_iff]
  rw [t_0, t_sub1 h2.1] at h1
  omega
theorem isM_in {σ : rS} {j : Int32} (hI : rI σ) (h : q_isM σ j = true) : vp_in j 10 := by
  have h1 := q_in_iff.mp h
  have h2 := hI.2.2.1
  rw [vp_in_iff]
  rw [t_0, t_sub1 h2.1] at h1
  omega
set_option maxRecDepth 100000 in
set_option maxHeartbeats 4000000 in
theorem r_in {l : Launch} {g : ab_G} {M : ab_M} {v lo hi : Int32} : AM l g Y_X9_in 0 0 0 0 [.int v, .int lo, .int hi] M (ab_Qi (fun x M' => x = b2i (q_in v lo hi) ∧ M' = M)) := by
  refine AM.of [some (.int v), some (.int lo), some (.int hi)] (by decide +kernel) (Nat.le_of_ble_eq_true rfl) rfl ?_
  refine aw_iload_n dX9_in_0 rfl ?_
  refine aw_iload_n dX9_in_1 rfl ?_
  refine aw_icmp_lt (tgt := 14) dX9_in_2 (by decide) (fun h2 => ?_) (fun h2 => ?_)
  · refine aw_iconst (v := 0) dX9_in_14 (by decide) ?_
    exact aw_zret dX9_in_15 rfl rfl ⟨by rw [b2i]; split <;> simp_all [q_in, Int32.le_iff_toInt_le, Int32.lt_iff_toInt_lt] <;> omega, rfl⟩
  · refine aw_iload_n dX9_in_5 rfl ?_
    refine aw_iload_n dX9_in_6 rfl ?_
    refine aw_icmp_gt (tgt := 14) dX9_in_7 (by decide) (fun h7 => ?_) (fun h7 => ?_)
    · refine aw_iconst (v := 0) dX9_in_14 (by decide) ?_
      exact aw_zret dX9_in_15 rfl rfl ⟨by rw [b2i]; split <;> simp_all [q_in, Int32.le_iff_toInt_le, Int32.lt_iff_toInt_lt] <;> omega, rfl⟩
    · refine aw_iconst (v := 1) dX9_in_10 (by decide) ?_
      refine aw_goto (tgt := 15) dX9_in_11 (by decide) ?_
      exact aw_zret dX9_in_15 rfl rfl ⟨by rw [b2i]; split <;> simp_all [q_in, Int32.le_iff_toInt_le, Int32.lt_iff_toInt_lt] <;> omega, rfl⟩
set_option maxRecDepth 100000 in
set_option maxHeartbeats 4000000 in
theorem r_least {l : Launch} {g : ab_G} {M : ab_M} {v w : Int32} : AM l g Y_X9_least 0 0 0 0 [.int v, .int w] M (ab_Qi (fun x M' => x = q_least v w ∧ M' = M)) := by
  refine AM.of [some (.int v), some (.int w)] (by decide +kernel) (Nat.le_of_ble_eq_true rfl) rfl ?_
  refine aw_iload_n dX9_least_0 rfl ?_
  refine aw_iload_n dX9_least_1 rfl ?_
  refine aw_icmp_ge (tgt := 9) dX9_least_2 (by decide) (fun h2 => ?_) (fun h2 => ?_)
  · refine aw_iload_n dX9_least_9 rfl ?_
    exact aw_iret dX9_least_10 rfl ⟨by rw [q_least]; split <;> simp_all [Int32.le_iff_toInt_le, Int32.lt_iff_toInt_lt] <;> omega, rfl⟩
  · refine aw_iload_n dX9_least_5 rfl ?_
    refine aw_goto (tgt := 10) dX9_least_6 (by decide) ?_
    exact aw_iret dX9_least_10 rfl ⟨by rw [q_least]; split <;> simp_all [Int32.le_iff_toInt_le, Int32.lt_iff_toInt_lt] <;> omega, rfl⟩
set_option maxRecDepth 100000 in
set_option maxHeartbeats 4000000 in
theorem r_isFountain {l : Launch} {g : ab_G} {M : ab_M} {a0 : Nat} {ρ : Nat → Nat} {σ : rS} (hR : RR g M a0 ρ σ) {j : Int32} : AM l g Y_X9_isFountain 1 22 0 0 [.ref a0, .int j] M (ab_Qi (fun x M' => x = b2i (q_isF σ j) ∧ M' = M)) := by
  refine AM.of [some (.ref a0), some (.int j)] (by decide +kernel) (Nat.le_of_ble_eq_true rfl) rfl ?_
  refine aw_iload_n dX9_isFountain_0 rfl ?_
  refine aw_iconst (v := 0) dX9_isFountain_1 (by decide) ?_
  refine aw_aload_n dX9_isFountain_2 rfl ?_
  refine aw_get dX9_isFountain_3 fg_X9_119_10 hR.1 rfl ?_
  refine aw_iconst (v := 1) dX9_isFountain_6 (by decide) ?_
  refine aw_isub dX9_isFountain_7 ?_
  refine aw_S3i (kc' := 0) (ks' := 0) dX9_isFountain_8 cs_X9_112 r_in rfl (Nat.le_of_ble_eq_true rfl) (fun x8 M8 h8 => ?_)
  obtain ⟨rfl, rfl⟩ := h8
  exact aw_zret dX9_isFountain_11 rfl b2i_z ⟨rfl, rfl⟩
set_option maxRecDepth 100000 in
set_option maxHeartbeats 4000000 in
theorem r_isJar {l : Launch} {g : ab_G} {M : ab_M} {a0 : Nat} {ρ : Nat → Nat} {σ : rS} (hR : RR g M a0 ρ σ) {j : Int32} : AM l g Y_X9_isJar 1 22 0 0 [.ref a0, .int j] M (ab_Qi (fun x M' => x = b2i (q_isJ σ j) ∧ M' = M)) := by
  refine AM.of [some (.ref a0), some (.int j)] (by decide +kernel) (Nat.le_of_ble_eq_true rfl) rfl ?_
  refine aw_iload_n dX9_isJar_0 rfl ?_
  refine aw_iconst (v := 0) dX9_isJar_1 (by decide) ?_
  refine aw_aload_n dX9_isJar_2 rfl ?_
  refine aw_get dX9_isJar_3 fg_X9_116_10 hR.1 rfl ?_
  refine aw_iconst (v := 1) dX9_isJar_6 (by decide) ?_
  refine aw_isub dX9_isJar_7 ?_
  refine aw_S3i (kc' := 0) (ks' := 0) dX9_isJar_8 cs_X9_112 r_in rfl (Nat.le_of_ble_eq_true rfl) (fun x8 M8 h8 => ?_)
  obtain ⟨rfl, rfl⟩ := h8
  exact aw_zret dX9_isJar_11 rfl b2i_z ⟨rfl, rfl⟩
set_option maxRecDepth 100000 in
set_option maxHeartbeats 4000000 in
theorem r_isMan {l : Launch} {g : ab_G} {M : ab_M} {a0 : Nat} {ρ : Nat → Nat} {σ : rS} (hR : RR g M a0 ρ σ) {j : Int32} : AM l g Y_X9_isMan 1 22 0 0 [.ref a0, .int j] M (ab_Qi (fun x M' => x = b2i (q_isM σ j) ∧ M' = M)) := by
  refine AM.of [some (.ref a0), some (.int j)] (by decide +kernel) (Nat.le_of_ble_eq_true rfl) rfl ?_
  refine aw_iload_n dX9_isMan_0 rfl ?_
  refine aw_iconst (v := 0) dX9_isMan_1 (by decide) ?_
  refine aw_aload_n dX9_isMan_2 rfl ?_
  refine aw_get dX9_isMan_3 fg_X9_126_10 hR.1 rfl ?_
  refine aw_iconst (v := 1) dX9_isMan_6 (by decide) ?_
  refine aw_isub dX9_isMan_7 ?_
  refine aw_S3i (kc' := 0) (ks' := 0) dX9_isMan_8 cs_X9_112 r_in rfl (Nat.le_of_ble_eq_true rfl) (fun x8 M8 h8 => ?_)
  obtain ⟨rfl, rfl⟩ := h8
  exact aw_zret dX9_isMan_11 rfl b2i_z ⟨rfl, rfl⟩
def f_drinks (σ : rS) (j n : Int32) : Int32 × rS := if q_isJ σ j && q_in n 0 9 then (rg σ 10 j, rp σ 10 j n) else (-1, σ)
set_option maxRecDepth 100000 in
set_option maxHeartbeats 4000000 in
theorem r_drinks {l : Launch} {g : ab_G} {M : ab_M} {a0 : Nat} {ρ : Nat → Nat} {σ : rS} (hR : RR g M a0 ρ σ) (hI : rI σ) {j n : Int32} : AM l g Y_X9_drinks 2 43 0 0 [.ref a0, .int j, .int n] M (ab_Qi (fun x M' => x = (f_drinks σ j n).1 ∧ RR g M' a0 ρ (f_drinks σ j n).2 ∧ KR M M')) := by
  refine AM.of [some (.ref a0), some (.int j), some (.int n), none] (by decide +kernel) (Nat.le_of_ble_eq_true rfl) rfl ?_
  have hK : KR M M := KR.rf
  refine aw_aload_n dX9_drinks_0 rfl ?_
  refine aw_iload_n dX9_drinks_1 rfl ?_
  refine aw_V1i (kc' := 0) (ks' := 0) dX9_drinks_2 cs_X9_129_10 hR.1 (r_isJar hR) rfl (Nat.le_of_ble_eq_true rfl) (fun x2 M2 h2 => ?_)
  obtain ⟨rfl, rfl⟩ := h2
  refine aw_if_eq (tgt := 18) dX9_drinks_5 (by decide) (fun h5 => ?_) (fun h5 => ?_)
  · replace h5 := b2i_0.mp h5
    refine aw_iconst (v := -1) dX9_drinks_18 (by decide) ?_
    exact aw_iret dX9_drinks_19 rfl (by refine ⟨?_, ?_, hK⟩ <;> first | (simp [f_drinks, *]; done) | (simp [f_drinks, *]; exact hR))
  · replace h5 := b2i_n.mp h5
    have hj := isJ_in hI h5
    refine aw_iload_n dX9_drinks_8 rfl ?_
    refine aw_iconst (v := 0) dX9_drinks_9 (by decide) ?_
    refine aw_bipush (v := 9) dX9_drinks_10 (by decide) ?_
    refine aw_S3i (kc' := 0) (ks' := 0) dX9_drinks_12 cs_X9_112 r_in rfl (Nat.le_of_ble_eq_true rfl) (fun x12 M12 h12 => ?_)
    obtain ⟨rfl, rfl⟩ := h12
    refine aw_if_ne (tgt := 20) dX9_drinks_15 (by decide) (fun h15 => ?_) (fun h15 => ?_)
    · replace h15 := b2i_n.mp h15
      refine aw_aload_n dX9_drinks_20 rfl ?_
      refine aw_get dX9_drinks_21 fg_X9_35_10 hR.1 rfl ?_
      refine aw_iload_n dX9_drinks_24 rfl ?_
      refine aw_iald dX9_drinks_25 (rr_10 hR) (by assumption) ?_
      refine aw_istore_n dX9_drinks_26 rfl (by decide) ?_
      refine aw_aload_n dX9_drinks_27 rfl ?_
      refine aw_get dX9_drinks_28 fg_X9_35_10 hR.1 rfl ?_
      refine aw_iload_n dX9_drinks_31 rfl ?_
      refine aw_iload_n dX9_drinks_32 rfl ?_
      refine rw_iast_10 dX9_drinks_33 (by assumption) hR hK (fun M hR hK => ?_)
      refine aw_iload_n dX9_drinks_34 rfl ?_
      exact aw_iret dX9_drinks_35 rfl (by refine ⟨?_, ?_, hK⟩ <;> first | (simp [f_drinks, *]; done) | (simp [f_drinks, *]; exact hR))
    · replace h15 := b2i_0.mp h15
      refine aw_iconst (v := -1) dX9_drinks_18 (by decide) ?_
      exact aw_iret dX9_drinks_19 rfl (by refine ⟨?_, ?_, hK⟩ <;> first | (simp [f_drinks, *]; done) | (simp [f_drinks, *]; exact hR))
