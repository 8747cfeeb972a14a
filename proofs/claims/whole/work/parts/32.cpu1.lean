/-! ===== the class's public methods, 1 ===== -/
theorem at_any {n : Nat} {f : Nat → Nat} {c i : Int32} (hc : c = nI n) (hn : n ≤ 10) : (q_at ((List.range n).map f) i = none ∧ q_in i 0 (c - 1) = false) ∨ ∃ k, k < n ∧ i = nI k ∧ q_at ((List.range n).map f) i = some (f k) ∧ q_in i 0 (c - 1) = true := by
  subst hc
  have hl : ((List.range n).map f).length = n := by simp
  by_cases h : q_in i 0 (nI n - 1) = true
  · refine Or.inr ?_
    have h1 := q_in_iff.mp h
    rw [t_0, t_sub1 (by rw [nI_toInt (by omega)]; omega), nI_toInt (by omega)] at h1
    refine ⟨i.toInt.toNat, by omega, ?_, ?_, h⟩
    · apply Int32.toInt_inj.mp
      rw [nI_toInt (by omega)]
      omega
    · unfold q_at
      rw [if_neg (by rw [Int32.lt_iff_toInt_lt, t_0]; omega)]
      have e : i.toNatClampNeg = i.toInt.toNat := rfl
      rw [e, List.getElem?_map, List.getElem?_range (by omega)]
      rfl
  · refine Or.inl ⟨?_, by simpa using h⟩
    have h1 : ¬ ((0 : Int32).toInt ≤ i.toInt ∧ i.toInt ≤ (nI n - 1).toInt) := fun q => h (q_in_iff.mpr q)
    rw [t_0, t_sub1 (by rw [nI_toInt (by omega)]; omega), nI_toInt (by omega)] at h1
    refine q_at_out ?_ (by rw [hl]; exact hn)
    rw [hl, Int32.lt_iff_toInt_lt, Int32.lt_iff_toInt_lt, t_0, nI_toInt (by omega)]
    omega
theorem at_F {nf nj nm : Nat} {κ : cS} (hI : cI0 nf nj nm κ) (f : Nat → Nat) (i : Int32) : (q_at ((List.range nf).map f) i = none ∧ q_isF κ.1 i = false) ∨ ∃ k, k < nf ∧ i = nI k ∧ q_at ((List.range nf).map f) i = some (f k) ∧ q_isF κ.1 i = true := at_any hI.2.1.1 (by have := hI.1; omega)
theorem at_J {nf nj nm : Nat} {κ : cS} (hI : cI0 nf nj nm κ) (f : Nat → Nat) (i : Int32) : (q_at ((List.range nj).map f) i = none ∧ q_isJ κ.1 i = false) ∨ ∃ k, k < nj ∧ i = nI k ∧ q_at ((List.range nj).map f) i = some (f k) ∧ q_isJ κ.1 i = true := at_any hI.2.1.2.1 (by have := hI.1; omega)
theorem at_M {nf nj nm : Nat} {κ : cS} (hI : cI0 nf nj nm κ) (f : Nat → Nat) (i : Int32) : (q_at ((List.range nm).map f) i = none ∧ q_isM κ.1 i = false) ∨ ∃ k, k < nm ∧ i = nI k ∧ q_at ((List.range nm).map f) i = some (f k) ∧ q_isM κ.1 i = true := at_any hI.2.1.2.2 (by have := hI.1; omega)
set_option maxRecDepth 100000 in
set_option maxHeartbeats 4000000 in
theorem w_fountainAt {l : Launch} {g : ab_G} {M : ab_M} {α : Nat → Nat → Nat} {nf nj nm : Nat} {κ : cS} (hC : CC g M α nf nj nm κ) {i : Int32} : AM l g Y_X8_fountainAt 3 64 0 0 [.ref (α 0 0), .int i] M (ab_Qq (fun x M' => x = q_at ((List.range nf).map (α 10)) i ∧ M' = M)) := by
  refine c_fountainAt hC.1 hC.2.2.2.2.2.2.2.2.1.1 (fun x hx => ?_)
  obtain ⟨m, hm, rfl⟩ := List.mem_map.mp hx
  exact ⟨_, _, gF hC (List.mem_range.mp hm)⟩
set_option maxRecDepth 100000 in
set_option maxHeartbeats 4000000 in
theorem w_jarAt {l : Launch} {g : ab_G} {M : ab_M} {α : Nat → Nat → Nat} {nf nj nm : Nat} {κ : cS} (hC : CC g M α nf nj nm κ) {i : Int32} : AM l g Y_X8_jarAt 3 64 0 0 [.ref (α 0 0), .int i] M (ab_Qq (fun x M' => x = q_at ((List.range nj).map (α 13)) i ∧ M' = M)) := by
  refine c_jarAt hC.1 hC.2.2.2.2.2.2.2.2.1.2.1 (fun x hx => ?_)
  obtain ⟨m, hm, rfl⟩ := List.mem_map.mp hx
  exact ⟨_, _, gJ hC (List.mem_range.mp hm)⟩
set_option maxRecDepth 100000 in
set_option maxHeartbeats 4000000 in
theorem w_manAt {l : Launch} {g : ab_G} {M : ab_M} {α : Nat → Nat → Nat} {nf nj nm : Nat} {κ : cS} (hC : CC g M α nf nj nm κ) {i : Int32} : AM l g Y_X8_manAt 3 64 0 0 [.ref (α 0 0), .int i] M (ab_Qq (fun x M' => x = q_at ((List.range nm).map (α 15)) i ∧ M' = M)) := by
  refine c_manAt hC.1 hC.2.2.2.2.2.2.2.2.1.2.2 (fun x hx => ?_)
  obtain ⟨m, hm, rfl⟩ := List.mem_map.mp hx
  exact cMan hC (List.mem_range.mp hm)
set_option maxRecDepth 100000 in
set_option maxHeartbeats 4000000 in
theorem c_drinks {l : Launch} {g : ab_G} {M : ab_M} {α : Nat → Nat → Nat} {nf nj nm : Nat} {κ : cS} (hC : CC g M α nf nj nm κ) (hI : cI0 nf nj nm κ) {j n : Int32} : AM l g Y_X8_drinks 4 85 0 0 [.ref (α 0 0), .int j, .int n] M (ab_Qi (fun x M' => x = (f_drinks κ.1 j n).1 ∧ CC g M' α nf nj nm ((f_drinks κ.1 j n).2, κ.2) ∧ KH M M')) := by
  refine AM.of [some (.ref (α 0 0)), some (.int j), some (.int n), none, none] (by decide +kernel) (Nat.le_of_ble_eq_true rfl) rfl ?_
  have hb := hI.1
  have hK : KH M M := KT.rf
  refine aw_aload_n dX8_drinks_0 rfl ?_
  refine aw_iload_n dX8_drinks_1 rfl ?_
  refine aw_V1q (kc' := 0) (ks' := 0) dX8_drinks_2 cs_X8_80_9 hC.1 (w_jarAt hC) rfl (Nat.le_of_ble_eq_true rfl) (fun x2 M2 h2 => ?_)
  obtain ⟨rfl, e2⟩ := h2
  replace e2 := e2.symm
  subst e2
  rcases at_J hI (α 13) j with ⟨e2, q2⟩ | ⟨k, hk, rfl, e2, q2⟩
  · rw [e2]
    refine aw_astore_nN dX8_drinks_5 rfl (by decide) ?_
    refine aw_aload_nN dX8_drinks_6 rfl ?_
    refine aw_ifnullN (tgt := 20) dX8_drinks_7 (by decide) ?_
    refine aw_iconst (v := -1) dX8_drinks_20 (by decide) ?_
    exact aw_iret dX8_drinks_21 rfl (by refine ⟨?_, ?_, hK⟩ <;> first | (simp [f_drinks, q2, *, rg]; done) | (simp [f_drinks, q2, *, rg, rp, rpz]; exact hC))
  · rw [e2]
    have ck := nI_cl (n := k) (by omega)
    refine aw_astore_n dX8_drinks_5 rfl (by decide) ?_
    refine aw_aload_n dX8_drinks_6 rfl ?_
    refine aw_ifnull dX8_drinks_7 ?_
    refine aw_iload_n dX8_drinks_10 rfl ?_
    refine aw_iconst (v := 0) dX8_drinks_11 (by decide) ?_
    refine aw_bipush (v := 9) dX8_drinks_12 (by decide) ?_
    refine aw_S3i (kc' := 0) (ks' := 0) dX8_drinks_14 cs_X8_54 c_outside rfl (Nat.le_of_ble_eq_true rfl) (fun x14 M14 h14 => ?_)
    obtain ⟨rfl, e14⟩ := h14
    replace e14 := e14.symm
    subst e14
    rw [q_out_in]
    refine aw_if_eq (tgt := 22) dX8_drinks_17 (by decide) (fun h17 => ?_) (fun h17 => ?_)
    · replace h17 := b2i_0.mp h17
      simp at h17
      refine aw_aload_n dX8_drinks_22 rfl ?_
      refine aw_get dX8_drinks_23 fg_X8_84_5 (gJ hC hk) rfl ?_
      refine aw_istore dX8_drinks_26 rfl (by decide) ?_
      refine aw_aload_n dX8_drinks_28 rfl ?_
      refine aw_iload_n dX8_drinks_29 rfl ?_
      refine cw_pJ5 dX8_drinks_30 fl_X8_84_5 hC hk hK (fun M hC hK => ?_)
      refine aw_iload dX8_drinks_33 rfl ?_
      exact aw_iret dX8_drinks_35 rfl (by refine ⟨?_, ?_, hK⟩ <;> first | (simp [f_drinks, q2, *, rg]; done) | (simp [f_drinks, q2, *, rg, rp, rpz]; exact hC))
    · replace h17 := b2i_n.mp h17
      simp at h17
      refine aw_iconst (v := -1) dX8_drinks_20 (by decide) ?_
      exact aw_iret dX8_drinks_21 rfl (by refine ⟨?_, ?_, hK⟩ <;> first | (simp [f_drinks, q2, *, rg]; done) | (simp [f_drinks, q2, *, rg, rp, rpz]; exact hC))
set_option maxRecDepth 100000 in
set_option maxHeartbeats 4000000 in
theorem c_right {l : Launch} {g : ab_G} {M : ab_M} {α : Nat → Nat → Nat} {nf nj nm : Nat} {κ : cS} (hC : CC g M α nf nj nm κ) (hI : cI0 nf nj nm κ) {m r : Int32} : AM l g Y_X8_right 4 85 0 0 [.ref (α 0 0), .int m, .int r] M (ab_Qi (fun x M' => x = (f_right κ.1 m r).1 ∧ CC g M' α nf nj nm ((f_right κ.1 m r).2, κ.2) ∧ KH M M')) := by
  refine AM.of [some (.ref (α 0 0)), some (.int m), some (.int r), none, none] (by decide +kernel) (Nat.le_of_ble_eq_true rfl) rfl ?_
  have hb := hI.1
  have hK : KH M M := KT.rf
  refine aw_aload_n dX8_right_0 rfl ?_
  refine aw_iload_n dX8_right_1 rfl ?_
  refine aw_V1q (kc' := 0) (ks' := 0) dX8_right_2 cs_X8_104_9 hC.1 (w_manAt hC) rfl (Nat.le_of_ble_eq_true rfl) (fun x2 M2 h2 => ?_)
  obtain ⟨rfl, e2⟩ := h2
  replace e2 := e2.symm
  subst e2
  rcases at_M hI (α 15) m with ⟨e2, q2⟩ | ⟨k, hk, rfl, e2, q2⟩
  · rw [e2]
    refine aw_astore_nN dX8_right_5 rfl (by decide) ?_
    refine aw_aload_nN dX8_right_6 rfl ?_
    refine aw_ifnullN (tgt := 19) dX8_right_7 (by decide) ?_
    refine aw_iconst (v := -1) dX8_right_19 (by decide) ?_
    exact aw_iret dX8_right_20 rfl (by refine ⟨?_, ?_, hK⟩ <;> first | (simp [f_right, q2, *, rg]; done) | (simp [f_right, q2, *, rg, rp, rpz]; exact hC))
  · rw [e2]
    have ck := nI_cl (n := k) (by omega)
    refine aw_astore_n dX8_right_5 rfl (by decide) ?_
    refine aw_aload_n dX8_right_6 rfl ?_
    refine aw_ifnull dX8_right_7 ?_
    refine aw_iload_n dX8_right_10 rfl ?_
    refine aw_iconst (v := 0) dX8_right_11 (by decide) ?_
    refine aw_iconst (v := 3) dX8_right_12 (by decide) ?_
    refine aw_S3i (kc' := 0) (ks' := 0) dX8_right_13 cs_X8_54 c_outside rfl (Nat.le_of_ble_eq_true rfl) (fun x13 M13 h13 => ?_)
    obtain ⟨rfl, e13⟩ := h13
    replace e13 := e13.symm
    subst e13
    rw [q_out_in]
    refine aw_if_eq (tgt := 21) dX8_right_16 (by decide) (fun h16 => ?_) (fun h16 => ?_)
    · replace h16 := b2i_0.mp h16
      simp at h16
      refine aw_aload_n dX8_right_21 rfl ?_
      refine aw_get dX8_right_22 (fM_X8_108 _) (gM hC hk) rfl ?_
      refine aw_istore dX8_right_25 rfl (by decide) ?_
      refine aw_aload_n dX8_right_27 rfl ?_
      refine aw_iload_n dX8_right_28 rfl ?_
      refine cw_pM4 dX8_right_29 (pM_X8_108 _) hC hk hK (fun M hC hK => ?_)
      refine aw_iload dX8_right_32 rfl ?_
      exact aw_iret dX8_right_34 rfl (by refine ⟨?_, ?_, hK⟩ <;> first | (simp [f_right, q2, *, rg]; done) | (simp [f_right, q2, *, rg, rp, rpz]; exact hC))
    · replace h16 := b2i_n.mp h16
      simp at h16
      refine aw_iconst (v := -1) dX8_right_19 (by decide) ?_
      exact aw_iret dX8_right_20 rfl (by refine ⟨?_, ?_, hK⟩ <;> first | (simp [f_right, q2, *, rg]; done) | (simp [f_right, q2, *, rg, rp, rpz]; exact hC))
set_option maxRecDepth 100000 in
set_option maxHeartbeats 4000000 in
theorem c_open {l : Launch} {g : ab_G} {M : ab_M} {α : Nat → Nat → Nat} {nf nj nm : Nat} {κ : cS} (hC : CC g M α nf nj nm κ) (hI : cI0 nf nj nm κ) {i b : Int32} (hz : narrow .boolean (.int b) = .int b) (hz2 : fits .boolean (.int b) = true) (hz3 : vp_nar .boolean b = b) : AM l g Y_X8_open 4 85 0 0 [.ref (α 0 0), .int i, .int b] M (ab_Qi (fun x M' => x = (f_open κ.1 i b).1 ∧ CC g M' α nf nj nm ((f_open κ.1 i b).2, κ.2) ∧ KH M M')) := by
  refine AM.of [some (.ref (α 0 0)), some (.int i), some (.int b), none, none] (by decide +kernel) (Nat.le_of_ble_eq_true rfl) rfl ?_
  have hb := hI.1
  have hK : KH M M := KT.rf
  refine aw_aload_n dX8_open_0 rfl ?_
  refine aw_iload_n dX8_open_1 rfl ?_
  refine aw_V1q (kc' := 0) (ks' := 0) dX8_open_2 cs_X8_87_9 hC.1 (w_fountainAt hC) rfl (Nat.le_of_ble_eq_true rfl) (fun x2 M2 h2 => ?_)
  obtain ⟨rfl, e2⟩ := h2
  replace e2 := e2.symm
  subst e2
  rcases at_F hI (α 10) i with ⟨e2, q2⟩ | ⟨k, hk, rfl, e2, q2⟩
  · rw [e2]
    refine aw_astore_nN dX8_open_5 rfl (by decide) ?_
    refine aw_aload_nN dX8_open_6 rfl ?_
    refine aw_ifnonnullN dX8_open_7 ?_
    refine aw_iconst (v := -1) dX8_open_10 (by decide) ?_
    exact aw_iret dX8_open_11 rfl (by refine ⟨?_, ?_, hK⟩ <;> first | (simp [f_open, q2, *, rg]; done) | (simp [f_open, q2, *, rg, rp, rpz]; exact hC))
  · rw [e2]
    have ck := nI_cl (n := k) (by omega)
    refine aw_astore_n dX8_open_5 rfl (by decide) ?_
    refine aw_aload_n dX8_open_6 rfl ?_
    refine aw_ifnonnull (tgt := 12) dX8_open_7 (by decide) ?_
    refine aw_aload_n dX8_open_12 rfl ?_
    refine aw_get dX8_open_13 fg_X8_130_3 (gF hC hk) rfl ?_
    refine aw_if_eq (tgt := 23) dX8_open_16 (by decide) (fun h16 => ?_) (fun h16 => ?_)
    · refine aw_iconst (v := 0) dX8_open_23 (by decide) ?_
      refine aw_istore dX8_open_24 rfl (by decide) ?_
      refine aw_aload_n dX8_open_26 rfl ?_
      refine aw_iload_n dX8_open_27 rfl ?_
      refine cw_pF3 dX8_open_28 fl_X8_130_3 hC hk hK hz hz2 (fun M hC hK => ?_)
      refine aw_iload dX8_open_31 rfl ?_
      exact aw_iret dX8_open_33 rfl (by refine ⟨?_, ?_, hK⟩ <;> first | (simp [f_open, q2, *, rg]; done) | (simp [f_open, q2, *, rg, rp, rpz]; exact hC))
    · refine aw_iconst (v := 1) dX8_open_19 (by decide) ?_
      refine aw_goto (tgt := 24) dX8_open_20 (by decide) ?_
      refine aw_istore dX8_open_24 rfl (by decide) ?_
      refine aw_aload_n dX8_open_26 rfl ?_
      refine aw_iload_n dX8_open_27 rfl ?_
      refine cw_pF3 dX8_open_28 fl_X8_130_3 hC hk hK hz hz2 (fun M hC hK => ?_)
      refine aw_iload dX8_open_31 rfl ?_
      exact aw_iret dX8_open_33 rfl (by refine ⟨?_, ?_, hK⟩ <;> first | (simp [f_open, q2, *, rg]; done) | (simp [f_open, q2, *, rg, rp, rpz]; exact hC))
set_option maxRecDepth 100000 in
set_option maxHeartbeats 4000000 in
theorem c_drought {l : Launch} {g : ab_G} {M : ab_M} {α : Nat → Nat → Nat} {nf nj nm : Nat} {κ : cS} (hC : CC g M α nf nj nm κ) (hI : cI0 nf nj nm κ) {p : Int32} : AM l g Y_X8_drought 1 22 0 0 [.ref (α 0 0), .int p] M (ab_Qi (fun x M' => x = (f_drought κ.1 p).1 ∧ CC g M' α nf nj nm ((f_drought κ.1 p).2, κ.2) ∧ KH M M')) := by
  refine AM.of [some (.ref (α 0 0)), some (.int p), none] (by decide +kernel) (Nat.le_of_ble_eq_true rfl) rfl ?_
  have hb := hI.1
  have hK : KH M M := KT.rf
  refine aw_iload_n dX8_drought_0 rfl ?_
  refine aw_iconst (v := 0) dX8_drought_1 (by decide) ?_
  refine aw_bipush (v := 100) dX8_drought_2 (by decide) ?_
  refine aw_S3i (kc' := 0) (ks' := 0) dX8_drought_4 cs_X8_54 c_outside rfl (Nat.le_of_ble_eq_true rfl) (fun x4 M4 h4 => ?_)
  obtain ⟨rfl, e4⟩ := h4
  replace e4 := e4.symm
  subst e4
  rw [q_out_in]
  refine aw_if_eq (tgt := 12) dX8_drought_7 (by decide) (fun h7 => ?_) (fun h7 => ?_)
  · replace h7 := b2i_0.mp h7
    simp at h7
    refine aw_aload_n dX8_drought_12 rfl ?_
    refine aw_get dX8_drought_13 fg_X8_51_9 hC.1 rfl ?_
    refine aw_istore_n dX8_drought_16 rfl (by decide) ?_
    refine aw_aload_n dX8_drought_17 rfl ?_
    refine aw_iload_n dX8_drought_18 rfl ?_
    refine cw_pW8 dX8_drought_19 fl_X8_51_9 hC hK (fun M hC hK => ?_)
    refine aw_iload_n dX8_drought_22 rfl ?_
    exact aw_iret dX8_drought_23 rfl (by refine ⟨?_, ?_, hK⟩ <;> first | (simp [f_drought, *]; done) | (simp [f_drought, *, rp, rpz]; exact hC))
  · replace h7 := b2i_n.mp h7
    simp at h7
    refine aw_iconst (v := -1) dX8_drought_10 (by decide) ?_
    exact aw_iret dX8_drought_11 rfl (by refine ⟨?_, ?_, hK⟩ <;> first | (simp [f_drought, *]; done) | (simp [f_drought, *, rp, rpz]; exact hC))
theorem q_or_in {f : Nat → Int32} {i z : Int32} : q_or f 10 i z = if q_in i 0 9 = true then f i.toNatClampNeg else z := by
  unfold q_or
  have e : (¬ i < 0 ∧ i < nI 10) ↔ q_in i 0 9 = true := by
    rw [q_in_iff, Int32.lt_iff_toInt_lt, Int32.lt_iff_toInt_lt, t_0, nI_toInt (by omega), show (9 : Int32).toInt = 9 by decide]
    omega
  simp only [e]
set_option maxRecDepth 100000 in
set_option maxHeartbeats 4000000 in
theorem c_fare {l : Launch} {g : ab_G} {M : ab_M} {α : Nat → Nat → Nat} {nf nj nm : Nat} {κ : cS} (hC : CC g M α nf nj nm κ) (hI : cI0 nf nj nm κ) {f : Int32} : AM l g Y_X8_fare 1 21 0 0 [.ref (α 0 0), .int f] M (ab_Qi (fun x M' => x = f_fare κ.1 f ∧ M' = M)) := by
  refine AM.of [some (.ref (α 0 0)), some (.int f)] (by decide +kernel) (Nat.le_of_ble_eq_true rfl) rfl ?_
  refine aw_aload_n dX8_fare_0 rfl ?_
  refine aw_get dX8_fare_1 fg_X8_25_9 hC.1 rfl ?_
  refine aw_iload_n dX8_fare_4 rfl ?_
  refine aw_V1i (kc' := 0) (ks' := 0) dX8_fare_5 cs_X8_141_2 hC.2.1.1 (c_priceOf hC.2.1.1 hC.2.1.2.2.1) rfl (Nat.le_of_ble_eq_true rfl) (fun x5 M5 h5 => ?_)
  obtain ⟨rfl, e5⟩ := h5
  replace e5 := e5.symm
  subst e5
  exact aw_iret dX8_fare_8 rfl ⟨by rw [f_fare, q_or_in], rfl⟩
set_option maxRecDepth 100000 in
set_option maxHeartbeats 4000000 in
theorem c_given {l : Launch} {g : ab_G} {M : ab_M} {α : Nat → Nat → Nat} {nf nj nm : Nat} {κ : cS} (hC : CC g M α nf nj nm κ) (hI : cI0 nf nj nm κ) {m : Int32} : AM l g Y_X8_given 4 85 0 0 [.ref (α 0 0), .int m] M (ab_Qi (fun x M' => x = f_given κ.1 m ∧ M' = M)) := by
  refine AM.of [some (.ref (α 0 0)), some (.int m)] (by decide +kernel) (Nat.le_of_ble_eq_true rfl) rfl ?_
  have hb := hI.1
  have hK : KH M M := KT.rf
  refine aw_aload_n dX8_given_0 rfl ?_
  refine aw_iload_n dX8_given_1 rfl ?_
  refine aw_V1q (kc' := 0) (ks' := 0) dX8_given_2 cs_X8_104_9 hC.1 (w_manAt hC) rfl (Nat.le_of_ble_eq_true rfl) (fun x2 M2 h2 => ?_)
  obtain ⟨rfl, e2⟩ := h2
  replace e2 := e2.symm
  subst e2
  rcases at_M hI (α 15) m with ⟨e2, q2⟩ | ⟨k, hk, rfl, e2, q2⟩
  · rw [e2]
    refine aw_ifnonnullN dX8_given_5 ?_
    refine aw_iconst (v := -1) dX8_given_8 (by decide) ?_
    exact aw_iret dX8_given_9 rfl ⟨by rw [f_given, q2]; rfl, rfl⟩
  · rw [e2]
    have ck := nI_cl (n := k) (by omega)
    refine aw_ifnonnull (tgt := 10) dX8_given_5 (by decide) ?_
    refine aw_aload_n dX8_given_10 rfl ?_
    refine aw_get dX8_given_11 fg_X8_39_9 hC.1 rfl ?_
    refine aw_iload_n dX8_given_14 rfl ?_
    refine aw_V1i (kc' := 0) (ks' := 0) dX8_given_15 cs_X8_217_4 hC.2.2.2.1.1 (c_jarOf hC.2.2.2.1.1 hC.2.2.2.1.2.2.2) rfl (Nat.le_of_ble_eq_true rfl) (fun x15 M15 h15 => ?_)
    obtain ⟨rfl, e15⟩ := h15
    replace e15 := e15.symm
    subst e15
    exact aw_iret dX8_given_18 rfl ⟨by rw [f_given, q2, if_pos rfl, q_or_in, if_pos (q_in_iff.mpr (by rw [nI_toInt (by omega), t_0, show (9 : Int32).toInt = 9 by decide]; omega))], rfl⟩
set_option maxRecDepth 100000 in
set_option maxHeartbeats 4000000 in
theorem c_water {l : Launch} {g : ab_G} {M : ab_M} {α : Nat → Nat → Nat} {nf nj nm : Nat} {κ : cS} (hC : CC g M α nf nj nm κ) (hI : cI0 nf nj nm κ) {i w : Int32} : AM l g Y_X8_water 4 85 0 0 [.ref (α 0 0), .int i, .int w] M (ab_Qi (fun x M' => x = f_water κ.1 i w ∧ M' = M)) := by
  refine AM.of [some (.ref (α 0 0)), some (.int i), some (.int w), none] (by decide +kernel) (Nat.le_of_ble_eq_true rfl) rfl ?_
  have hb := hI.1
  have hK : KH M M := KT.rf
  refine aw_iload_n dX8_water_0 rfl ?_
  refine aw_if_eq (tgt := 9) dX8_water_1 (by decide) (fun h1 => ?_) (fun h1 => ?_)
  · refine aw_aload_n dX8_water_9 rfl ?_
    refine aw_iload_n dX8_water_10 rfl ?_
    refine aw_V1q (kc' := 0) (ks' := 0) dX8_water_11 cs_X8_87_9 hC.1 (w_fountainAt hC) rfl (Nat.le_of_ble_eq_true rfl) (fun x11 M11 h11 => ?_)
    obtain ⟨rfl, e11⟩ := h11
    replace e11 := e11.symm
    subst e11
    rcases at_F hI (α 10) i with ⟨e11, q11⟩ | ⟨k, hk, rfl, e11, q11⟩
    · rw [e11]
      refine aw_astore_nN dX8_water_14 rfl (by decide) ?_
      refine aw_aload_nN dX8_water_15 rfl ?_
      refine aw_ifnonnullN dX8_water_16 ?_
      refine aw_iconst (v := -1) dX8_water_19 (by decide) ?_
      exact aw_iret dX8_water_20 rfl ⟨by first | (simp [f_water, q11, *, rg]; done) | (exfalso; clear hC hK; simp_all; done) | (subst h1; exact absurd h22 (by decide)) | (subst h6; exact absurd h22 (by decide)) | (subst h39; exact absurd h61 (by decide)) | (subst h44; exact absurd h61 (by decide)), rfl⟩
    · rw [e11]
      have ck := nI_cl (n := k) (by omega)
      refine aw_astore_n dX8_water_14 rfl (by decide) ?_
      refine aw_aload_n dX8_water_15 rfl ?_
      refine aw_ifnonnull (tgt := 21) dX8_water_16 (by decide) ?_
      refine aw_iload_n dX8_water_21 rfl ?_
      refine aw_if_ne (tgt := 32) dX8_water_22 (by decide) (fun h22 => ?_) (fun h22 => ?_)
      · refine aw_aload_n dX8_water_32 rfl ?_
        refine aw_get dX8_water_33 fg_X8_178_3 (gF hC hk) rfl ?_
        exact aw_iret dX8_water_36 rfl ⟨by first | (simp [f_water, q11, *, rg]; done) | (exfalso; clear hC hK; simp_all; done) | (subst h1; exact absurd h22 (by decide)) | (subst h6; exact absurd h22 (by decide)) | (subst h39; exact absurd h61 (by decide)) | (subst h44; exact absurd h61 (by decide)), rfl⟩
      · refine aw_aload_n dX8_water_25 rfl ?_
        refine aw_get dX8_water_26 fg_X8_175_3 (gF hC hk) rfl ?_
        refine aw_goto (tgt := 36) dX8_water_29 (by decide) ?_
        exact aw_iret dX8_water_36 rfl ⟨by first | (simp [f_water, q11, *, rg]; done) | (exfalso; clear hC hK; simp_all; done) | (subst h1; exact absurd h22 (by decide)) | (subst h6; exact absurd h22 (by decide)) | (subst h39; exact absurd h61 (by decide)) | (subst h44; exact absurd h61 (by decide)), rfl⟩
  · refine aw_iload_n dX8_water_4 rfl ?_
    refine aw_iconst (v := 2) dX8_water_5 (by decide) ?_
    refine aw_icmp_ne (tgt := 37) dX8_water_6 (by decide) (fun h6 => ?_) (fun h6 => ?_)
    · refine aw_iload_n dX8_water_37 rfl ?_
      refine aw_iconst (v := 1) dX8_water_38 (by decide) ?_
      refine aw_icmp_eq (tgt := 47) dX8_water_39 (by decide) (fun h39 => ?_) (fun h39 => ?_)
      · refine aw_aload_n dX8_water_47 rfl ?_
        refine aw_iload_n dX8_water_48 rfl ?_
        refine aw_V1q (kc' := 0) (ks' := 0) dX8_water_49 cs_X8_80_9 hC.1 (w_jarAt hC) rfl (Nat.le_of_ble_eq_true rfl) (fun x49 M49 h49 => ?_)
        obtain ⟨rfl, e49⟩ := h49
        replace e49 := e49.symm
        subst e49
        rcases at_J hI (α 13) i with ⟨e49, q49⟩ | ⟨k, hk, rfl, e49, q49⟩
        · rw [e49]
          refine aw_astore_nN dX8_water_52 rfl (by decide) ?_
          refine aw_aload_nN dX8_water_53 rfl ?_
          refine aw_ifnonnullN dX8_water_54 ?_
          refine aw_iconst (v := -1) dX8_water_57 (by decide) ?_
          exact aw_iret dX8_water_58 rfl ⟨by first | (simp [f_water, q49, *, rg]; done) | (exfalso; clear hC hK; simp_all; done) | (subst h1; exact absurd h22 (by decide)) | (subst h6; exact absurd h22 (by decide)) | (subst h39; exact absurd h61 (by decide)) | (subst h44; exact absurd h61 (by decide)), rfl⟩
        · rw [e49]
          have ck := nI_cl (n := k) (by omega)
          refine aw_astore_n dX8_water_52 rfl (by decide) ?_
          refine aw_aload_n dX8_water_53 rfl ?_
          refine aw_ifnonnull (tgt := 59) dX8_water_54 (by decide) ?_
          refine aw_iload_n dX8_water_59 rfl ?_
          refine aw_iconst (v := 1) dX8_water_60 (by decide) ?_
          refine aw_icmp_ne (tgt := 71) dX8_water_61 (by decide) (fun h61 => ?_) (fun h61 => ?_)
          · refine aw_aload_n dX8_water_71 rfl ?_
            refine aw_get dX8_water_72 fg_X8_182_5 (gJ hC hk) rfl ?_
            exact aw_iret dX8_water_75 rfl ⟨by first | (simp [f_water, q49, *, rg]; done) | (exfalso; clear hC hK; simp_all; done) | (subst h1; exact absurd h22 (by decide)) | (subst h6; exact absurd h22 (by decide)) | (subst h39; exact absurd h61 (by decide)) | (subst h44; exact absurd h61 (by decide)), rfl⟩
          · refine aw_aload_n dX8_water_64 rfl ?_
            refine aw_get dX8_water_65 fg_X8_181_5 (gJ hC hk) rfl ?_
            refine aw_goto (tgt := 75) dX8_water_68 (by decide) ?_
            exact aw_iret dX8_water_75 rfl ⟨by first | (simp [f_water, q49, *, rg]; done) | (exfalso; clear hC hK; simp_all; done) | (subst h1; exact absurd h22 (by decide)) | (subst h6; exact absurd h22 (by decide)) | (subst h39; exact absurd h61 (by decide)) | (subst h44; exact absurd h61 (by decide)), rfl⟩
      · refine aw_iload_n dX8_water_42 rfl ?_
        refine aw_iconst (v := 3) dX8_water_43 (by decide) ?_
        refine aw_icmp_ne (tgt := 76) dX8_water_44 (by decide) (fun h44 => ?_) (fun h44 => ?_)
        · refine aw_iconst (v := -1) dX8_water_76 (by decide) ?_
          exact aw_iret dX8_water_77 rfl ⟨by simp [f_water, *], rfl⟩
        · refine aw_aload_n dX8_water_47 rfl ?_
          refine aw_iload_n dX8_water_48 rfl ?_
          refine aw_V1q (kc' := 0) (ks' := 0) dX8_water_49 cs_X8_80_9 hC.1 (w_jarAt hC) rfl (Nat.le_of_ble_eq_true rfl) (fun x49 M49 h49 => ?_)
          obtain ⟨rfl, e49⟩ := h49
          replace e49 := e49.symm
          subst e49
          rcases at_J hI (α 13) i with ⟨e49, q49⟩ | ⟨k, hk, rfl, e49, q49⟩
          · rw [e49]
            refine aw_astore_nN dX8_water_52 rfl (by decide) ?_
            refine aw_aload_nN dX8_water_53 rfl ?_
            refine aw_ifnonnullN dX8_water_54 ?_
            refine aw_iconst (v := -1) dX8_water_57 (by decide) ?_
            exact aw_iret dX8_water_58 rfl ⟨by first | (simp [f_water, q49, *, rg]; done) | (exfalso; clear hC hK; simp_all; done) | (subst h1; exact absurd h22 (by decide)) | (subst h6; exact absurd h22 (by decide)) | (subst h39; exact absurd h61 (by decide)) | (subst h44; exact absurd h61 (by decide)), rfl⟩
          · rw [e49]
            have ck := nI_cl (n := k) (by omega)
            refine aw_astore_n dX8_water_52 rfl (by decide) ?_
            refine aw_aload_n dX8_water_53 rfl ?_
            refine aw_ifnonnull (tgt := 59) dX8_water_54 (by decide) ?_
            refine aw_iload_n dX8_water_59 rfl ?_
            refine aw_iconst (v := 1) dX8_water_60 (by decide) ?_
            refine aw_icmp_ne (tgt := 71) dX8_water_61 (by decide) (fun h61 => ?_) (fun h61 => ?_)
            · refine aw_aload_n dX8_water_71 rfl ?_
              refine aw_get dX8_water_72 fg_X8_182_5 (gJ hC hk) rfl ?_
              exact aw_iret dX8_water_75 rfl ⟨by first | (simp [f_water, q49, *, rg]; done) | (exfalso; clear hC hK; simp_all; done) | (subst h1; exact absurd h22 (by decide)) | (subst h6; exact absurd h22 (by decide)) | (subst h39; exact absurd h61 (by decide)) | (subst h44; exact absurd h61 (by decide)), rfl⟩
            · refine aw_aload_n dX8_water_64 rfl ?_
              refine aw_get dX8_water_65 fg_X8_181_5 (gJ hC hk) rfl ?_
              refine aw_goto (tgt := 75) dX8_water_68 (by decide) ?_
              exact aw_iret dX8_water_75 rfl ⟨by first | (simp [f_water, q49, *, rg]; done) | (exfalso; clear hC hK; simp_all; done) | (subst h1; exact absurd h22 (by decide)) | (subst h6; exact absurd h22 (by decide)) | (subst h39; exact absurd h61 (by decide)) | (subst h44; exact absurd h61 (by decide)), rfl⟩
    · refine aw_aload_n dX8_water_9 rfl ?_
      refine aw_iload_n dX8_water_10 rfl ?_
      refine aw_V1q (kc' := 0) (ks' := 0) dX8_water_11 cs_X8_87_9 hC.1 (w_fountainAt hC) rfl (Nat.le_of_ble_eq_true rfl) (fun x11 M11 h11 => ?_)
      obtain ⟨rfl, e11⟩ := h11
      replace e11 := e11.symm
      subst e11
      rcases at_F hI (α 10) i with ⟨e11, q11⟩ | ⟨k, hk, rfl, e11, q11⟩
      · rw [e11]
        refine aw_astore_nN dX8_water_14 rfl (by decide) ?_
        refine aw_aload_nN dX8_water_15 rfl ?_
        refine aw_ifnonnullN dX8_water_16 ?_
        refine aw_iconst (v := -1) dX8_water_19 (by decide) ?_
        exact aw_iret dX8_water_20 rfl ⟨by first | (simp [f_water, q11, *, rg]; done) | (exfalso; clear hC hK; simp_all; done) | (subst h1; exact absurd h22 (by decide)) | (subst h6; exact absurd h22 (by decide)) | (subst h39; exact absurd h61 (by decide)) | (subst h44; exact absurd h61 (by decide)), rfl⟩
      · rw [e11]
        have ck := nI_cl (n := k) (by omega)
        refine aw_astore_n dX8_water_14 rfl (by decide) ?_
        refine aw_aload_n dX8_water_15 rfl ?_
        refine aw_ifnonnull (tgt := 21) dX8_water_16 (by decide) ?_
        refine aw_iload_n dX8_water_21 rfl ?_
        refine aw_if_ne (tgt := 32) dX8_water_22 (by decide) (fun h22 => ?_) (fun h22 => ?_)
        · refine aw_aload_n dX8_water_32 rfl ?_
          refine aw_get dX8_water_33 fg_X8_178_3 (gF hC hk) rfl ?_
          exact aw_iret dX8_water_36 rfl ⟨by first | (simp [f_water, q11, *, rg]; done) | (exfalso; clear hC hK; simp_all; done) | (subst h1; exact absurd h22 (by decide)) | (subst h6; exact absurd h22 (by decide)) | (subst h39; exact absurd h61 (by decide)) | (subst h44; exact absurd h61 (by decide)), rfl⟩
        · refine aw_aload_n dX8_water_25 rfl ?_
          refine aw_get dX8_water_26 fg_X8_175_3 (gF hC hk) rfl ?_
          refine aw_goto (tgt := 36) dX8_water_29 (by decide) ?_
          exact aw_iret dX8_water_36 rfl ⟨by first | (simp [f_water, q11, *, rg]; done) | (exfalso; clear hC hK; simp_all; done) | (subst h1; exact absurd h22 (by decide)) | (subst h6; exact absurd h22 (by decide)) | (subst h39; exact absurd h61 (by decide)) | (subst h44; exact absurd h61 (by decide)), rfl⟩
theorem sum_lt {w : Int32} (h0 : ¬ w < 0) (h7 : ¬ w = 7) (h : w < 7) : q_in w 0 7 = true ∧ vp_in w 7 := by
  rw [q_in_iff, vp_in_iff]
  rw [Int32.lt_iff_toInt_lt] at h0 h
  rw [t_0, show (7 : Int32).toInt = 7 by decide] at *
  omega
theorem sum_no {w : Int32} (h7 : ¬ w = 7) (h : w < 0 ∨ ¬ w < 7) : q_in w 0 7 = false := by
  have h8 := ne_toInt h7
  rw [Int32.lt_iff_toInt_lt, Int32.lt_iff_toInt_lt, t_0, show (7 : Int32).toInt = 7 by decide] at *
  cases e : q_in w 0 7 with
  | false => rfl
  | true =>
    rw [q_in_iff, t_0, show (7 : Int32).toInt = 7 by decide] at e
    omega
set_option maxRecDepth 100000 in
set_option maxHeartbeats 4000000 in
theorem c_sum {l : Launch} {g : ab_G} {M : ab_M} {α : Nat → Nat → Nat} {nf nj nm : Nat} {κ : cS} (hC : CC g M α nf nj nm κ) (hI : cI0 nf nj nm κ) {w : Int32} : AM l g Y_X8_sum 0 0 0 0 [.ref (α 0 0), .int w] M (ab_Ql (fun x M' => x = f_sum κ.1 w ∧ M' = M)) := by
  refine AM.of [some (.ref (α 0 0)), some (.int w)] (by decide +kernel) (Nat.le_of_ble_eq_true rfl) rfl ?_
  refine aw_iload_n dX8_sum_0 rfl ?_
  refine aw_bipush (v := 7) dX8_sum_1 (by decide) ?_
  refine aw_icmp_ne (tgt := 12) dX8_sum_3 (by decide) (fun h3 => ?_) (fun h3 => ?_)
  · refine aw_iload_n dX8_sum_12 rfl ?_
    refine aw_if_lt (tgt := 25) dX8_sum_13 (by decide) (fun h13 => ?_) (fun h13 => ?_)
    · refine aw_ldc2 dX8_sum_25 tw_709 ?_
      exact aw_lret dX8_sum_28 rfl ⟨by first | rw [f_sum, sum_no h3 (Or.inl h13)]; rfl | rw [f_sum, sum_no h3 (Or.inr h22)]; rfl, rfl⟩
    · refine aw_iload_n dX8_sum_16 rfl ?_
      refine aw_aload_n dX8_sum_17 rfl ?_
      refine aw_get dX8_sum_18 fg_X8_43_9 hC.1 rfl ?_
      refine aw_alen dX8_sum_21 hC.2.2.2.2.1 1 rfl rfl ?_
      refine aw_icmp_lt (tgt := 29) dX8_sum_22 (by decide) (fun h22 => ?_) (fun h22 => ?_)
      · refine aw_aload_n dX8_sum_29 rfl ?_
        refine aw_get dX8_sum_30 fg_X8_43_9 hC.1 rfl ?_
        refine aw_iload_n dX8_sum_33 rfl ?_
        refine aw_lald dX8_sum_34 hC.2.2.2.2.1 (sum_lt h13 h3 h22).2 ?_
        exact aw_lret dX8_sum_35 rfl ⟨by rw [f_sum, if_pos (sum_lt h13 h3 h22).1, if_neg h3], rfl⟩
      · refine aw_ldc2 dX8_sum_25 tw_709 ?_
        exact aw_lret dX8_sum_28 rfl ⟨by first | rw [f_sum, sum_no h3 (Or.inl h13)]; rfl | rw [f_sum, sum_no h3 (Or.inr h22)]; rfl, rfl⟩
  · refine aw_aload_n dX8_sum_6 rfl ?_
    refine aw_get dX8_sum_7 fg_X8_47_9 hC.1 rfl ?_
    refine aw_i2l dX8_sum_10 ?_
    exact aw_lret dX8_sum_11 rfl ⟨by subst h3; rfl, rfl⟩
