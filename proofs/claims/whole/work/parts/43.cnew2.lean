/-! ===== fountain, jar ===== -/
theorem aw_addA {l : Launch} {g : ab_G} {X : State → Array Value → Prop} {Z : List Frame → Array Value → State → Room → State → Prop} {y : ab_Y} {F Lw kc ks : Nat} {pc : Nat} {L : List (Option Value)} {st : List Value} {M : ab_M} {i a x kc' ks' : Nat} {t td tx : Nat × Nat} {xs : List Nat} (hd : decode y.2.1 pc = .ok (.invokevirtual i, 3)) (hw : ab_cV y.1.cls i 0 Y_Jx4a65c_add_9ea2d 1) (ht : t ≠ td) (hL : aL g M a t td xs) (hl : xs.length < 10) (hx : aO M x tx) (htx : tx ≠ t) (hf : ab_fit F Lw kc ks Y_Jx4a65c_add_9ea2d 4 87 1 10 kc' ks' = true) (h8 : (st.map fun v => v.category).sum ≤ 8)
    (kk : ∀ M', LG g M' a t td (xs ++ [x]) → KT (fun q => q = t ∨ q = td) M M' → AW l g X Z y F Lw kc' ks' (pc + 3) L (.int 1 :: st) M') : AW l g X Z y F Lw kc ks pc L (.ref x :: .ref a :: st) M := by
  obtain ⟨v0, v1, hs⟩ := hL.sz
  have hf2 : ab_fit F Lw kc ks Y_Jx4a65c_add_9ea2d 4 87 0 0 kc' ks' = true := by
    simp only [ab_fit, Bool.and_eq_true, decide_eq_true_eq] at hf ⊢
    omega
  rcases hL with hL | ⟨rfl, hL⟩
  · refine aw_V1i (kc' := kc') (ks' := ks') hd hw hs (j_add ht hL hl hx htx) hf2 h8 (fun y9 M9 h9 => ?_)
    obtain ⟨rfl, h1, h2⟩ := h9
    exact kk M9 h1 h2
  · refine aw_V1i (kc' := kc') (ks' := ks') hd hw hs (j_addE td ht hL hx htx) hf h8 (fun y9 M9 h9 => ?_)
    obtain ⟨rfl, h1, h2⟩ := h9
    exact kk M9 h1 (h2.wid (fun t h => Or.inl h))
def g_fountain (nf nj : Nat) (κ : cS) (w : Int32) : Int32 × Nat × cS := if q_in w 1 20 = true then (if nj = 0 then (if nf < 4 then (nI nf, nf + 1, cs (g_fou1 κ nf w) 0 (nI (nf + 1))) else (-3, nf, κ)) else (-2, nf, κ)) else (-1, nf, κ)
set_option maxRecDepth 100000 in
set_option maxHeartbeats 4000000 in
theorem c_fountain {l : Launch} {g : ab_G} {M : ab_M} {α : Nat → Nat → Nat} {nf nj nm : Nat} {κ : cS} (hC : CC g M α nf nj nm κ) (hI : cI0 nf nj nm κ) {w : Int32} : AM l g Y_X8_fountain 5 108 3 19 [.ref (α 0 0), .int w] M (ab_Qi (fun x M' => x = (g_fountain nf nj κ w).1 ∧ (∃ β, β 0 0 = α 0 0 ∧ CC g M' β (g_fountain nf nj κ w).2.1 nj nm (g_fountain nf nj κ w).2.2) ∧ KH M M')) := by
  refine AM.of [some (.ref (α 0 0)), some (.int w), none] (by decide +kernel) (Nat.le_of_ble_eq_true rfl) rfl ?_
  have hb := hI.1
  have hK : KH M M := KT.rf
  refine aw_iload_n dX8_fountain_0 rfl ?_
  refine aw_iconst (v := 1) dX8_fountain_1 (by decide) ?_
  refine aw_bipush (v := 20) dX8_fountain_2 (by decide) ?_
  refine aw_S3i (kc' := 3) (ks' := 19) dX8_fountain_4 cs_X8_54 c_outside rfl (Nat.le_of_ble_eq_true rfl) (fun x4 M4 h4 => ?_)
  obtain ⟨rfl, e4⟩ := h4
  replace e4 := e4.symm
  subst e4
  rw [q_out_in]
  refine aw_if_eq (tgt := 12) dX8_fountain_7 (by decide) (fun h7 => ?_) (fun h7 => ?_)
  · replace h7 := b2i_0.mp h7
    simp at h7
    refine aw_aload_n dX8_fountain_12 rfl ?_
    refine aw_get dX8_fountain_13 fg_X8_16_9 hC.1 rfl ?_
    obtain ⟨u16, v16, s16⟩ := szJ hC
    refine aw_V0i (kc' := 3) (ks' := 19) dX8_fountain_16 cs_X8_58_0 s16 (j_isEmpty s16) rfl (Nat.le_of_ble_eq_true rfl) (fun x16 M16 h16 => ?_)
    obtain ⟨rfl, e16⟩ := h16
    replace e16 := e16.symm
    subst e16
    refine aw_if_ne (tgt := 25) dX8_fountain_19 (by decide) (fun h19 => ?_) (fun h19 => ?_)
    · replace h19 := b2i_n.mp h19
      have h19 := (nI_eq_iff (b := 0) (by omega) (by omega)).mp (of_decide_eq_true h19)
      refine aw_aload_n dX8_fountain_25 rfl ?_
      refine aw_get dX8_fountain_26 fg_X8_10_9 hC.1 rfl ?_
      obtain ⟨u29, v29, s29⟩ := szF hC
      refine aw_V0i (kc' := 3) (ks' := 19) dX8_fountain_29 cs_X8_62_0 s29 (j_size s29) rfl (Nat.le_of_ble_eq_true rfl) (fun x29 M29 h29 => ?_)
      obtain ⟨rfl, e29⟩ := h29
      replace e29 := e29.symm
      subst e29
      refine aw_istore_n dX8_fountain_32 rfl (by decide) ?_
      refine aw_iload_n dX8_fountain_33 rfl ?_
      refine aw_iconst (v := 4) dX8_fountain_34 (by decide) ?_
      refine aw_icmp_lt (tgt := 41) dX8_fountain_35 (by decide) (fun h35 => ?_) (fun h35 => ?_)
      · have h35 : nf < 4 := by have h9 : nI nf < nI 4 := h35; rw [nI_ltI (by omega) (by omega)] at h9; exact h9
        refine aw_aload_n dX8_fountain_41 rfl ?_
        refine aw_get dX8_fountain_42 fg_X8_10_9 hC.1 rfl ?_
        refine aw_new (kc := 2) (ks := 13) (10, nf) [.int 0, .int 0, .null, .int 0, .int 0, .int 0] dX8_fountain_45 cl_3 tw_199 tw_200 tw_50 (fun j hj => by rcases (show j = 0 ∨ j = 1 ∨ j = 2 ∨ j = 3 ∨ j = 4 ∨ j = 5 by omega) with rfl | rfl | rfl | rfl | rfl | rfl <;> rfl) (fun a9 ha9 => ?_)
        refine aw_dup dX8_fountain_48 rfl ?_
        refine aw_iload_n dX8_fountain_49 rfl ?_
        refine aw_iload_n dX8_fountain_50 rfl ?_
        refine aw_I2v (kc' := 1) (ks' := 10) dX8_fountain_51 cs_X8_68 (c_initF (11, nf) ab_set_self) rfl (Nat.le_of_ble_eq_true rfl) (fun M51 h51 => ?_)
        obtain ⟨r, hr0, hM⟩ := h51
        have hK0 : KT (fun _ => False) M M51 := by
          rw [hM]
          intro b t2 e2 hb2 h2
          rw [ab_set_ne (fun e => by rw [e, ha9] at hb2; cases hb2)]
          exact ab_set_new hr0 (ab_set_new ha9 hb2)
        have ha : M51 a9 = some ((10, nf), .inr (3, [.int (nI nf), .int w, .ref r, .int 1, .int 0, .int 0])) := by rw [hM]; exact ab_set_self
        have hr : M51 r = some ((11, nf), .inr (0, [.int 0, .ref (ab_e0 g), .int 0])) := by
          rw [hM, ab_set_ne (fun e => by rw [e, ab_set_self] at hr0; cases hr0)]
          exact ab_set_self
        refine aw_addA (kc' := 0) (ks' := 0) dX8_fountain_54 cs_X8_71_0 (by decide) (hC.2.2.2.2.2.2.2.2.1.1.keep hK0 id id) (by simp; omega) ⟨_, _, _, ha, rfl, nc_1100⟩ (by simp) rfl (Nat.le_of_ble_eq_true rfl) (fun M54 h54 hK54 => ?_)
        have hC9 := cadd_fou hC hb hK0 hr ha hK54 (Or.inl h54) (fun m hm => by obtain ⟨i, hi, e⟩ := hI.2.2.1 m hm; rw [e, nI_cl (by omega)]; exact hi)
        refine aw_pop dX8_fountain_57 rfl ?_
        refine aw_iload_n dX8_fountain_58 rfl ?_
        exact aw_iret dX8_fountain_59 rfl ⟨by rw [g_fountain, if_pos h7, if_pos h19, if_pos h35], ⟨up2 (up2 α 10 nf a9) 11 nf r, rfl, by rw [g_fountain, if_pos h7, if_pos h19, if_pos h35]; exact hC9⟩, (hK0.wid (fun t h => h.elim)).tr (hK54.wid (fun t h => by rcases h with h | h <;> (rw [h]; show _ < 20; decide)))⟩
      · have h35 : ¬ nf < 4 := fun q => h35 (show nI nf < nI 4 from (nI_ltI (by omega) (by omega)).mpr q)
        refine aw_bipush (v := -3) dX8_fountain_38 (by decide) ?_
        exact aw_iret dX8_fountain_40 rfl ⟨by rw [g_fountain, if_pos h7, if_pos h19, if_neg h35], ⟨α, rfl, by rw [g_fountain, if_pos h7, if_pos h19, if_neg h35]; exact hC⟩, hK⟩
    · replace h19 := b2i_0.mp h19
      have h19 := fun e => of_decide_eq_false h19 ((nI_eq_iff (b := 0) (by omega) (by omega)).mpr e)
      refine aw_bipush (v := -2) dX8_fountain_22 (by decide) ?_
      exact aw_iret dX8_fountain_24 rfl ⟨by rw [g_fountain, if_pos h7, if_neg h19], ⟨α, rfl, by rw [g_fountain, if_pos h7, if_neg h19]; exact hC⟩, hK⟩
  · replace h7 := b2i_n.mp h7
    simp at h7
    refine aw_iconst (v := -1) dX8_fountain_10 (by decide) ?_
    exact aw_iret dX8_fountain_11 rfl ⟨by rw [g_fountain, if_neg (by rw [h7]; decide)], ⟨α, rfl, by rw [g_fountain, if_neg (by rw [h7]; decide)]; exact hC⟩, hK⟩
def fm (a b c d : Int32) : Nat → Int32 := upd (upd (upd (upd (fun _ => 0) 0 a) 1 b) 2 c) 3 d
def okm (n : Nat) (f : Nat → Int32) : Prop := ∀ i, i < n → q_in (f i) 1 30 = true
def g_jar2 (nf nj : Nat) (κ : cS) (fl ho : Int32) (f : Nat → Int32) : Int32 × Nat × cS := if nf = 0 then (-2, nj, κ) else if nj < 8 then (nI nj, nj + 1, cs (g_jar1 κ nj fl ho f) 5 (nI (nj + 1))) else (-3, nj, κ)
set_option maxRecDepth 100000 in
set_option maxHeartbeats 4000000 in
theorem c_jar {l : Launch} {g : ab_G} {Mb : ab_M} {α : Nat → Nat → Nat} {nf nj nm : Nat} {κ : cS} (hC : CC g Mb α nf nj nm κ) (hI : cI0 nf nj nm κ) {fl ho a b c d : Int32} : AM l g Y_X8_jar 5 108 3 21 [.ref (α 0 0), .int fl, .int ho, .int a, .int b, .int c, .int d] Mb (ab_Qi (fun x M' => (((q_in fl 0 9 && q_in ho 1 200) = false ∧ x = -1 ∧ ∃ β, β 0 0 = α 0 0 ∧ CC g M' β nf nj nm κ) ∨ ((q_in fl 0 9 && q_in ho 1 200) = true ∧ ¬ okm nf (fm a b c d) ∧ x = -1 ∧ ∃ β, β 0 0 = α 0 0 ∧ CC g M' β nf nj nm κ) ∨ ((q_in fl 0 9 && q_in ho 1 200) = true ∧ okm nf (fm a b c d) ∧ x = (g_jar2 nf nj κ fl ho (fm a b c d)).1 ∧ ∃ β, β 0 0 = α 0 0 ∧ CC g M' β nf (g_jar2 nf nj κ fl ho (fm a b c d)).2.1 nm (g_jar2 nf nj κ fl ho (fm a b c d)).2.2)) ∧ KH Mb M')) := by
  refine AM.of [some (.ref (α 0 0)), some (.int fl), some (.int ho), some (.int a), some (.int b), some (.int c), some (.int d), none, none] (by decide +kernel) (Nat.le_of_ble_eq_true rfl) rfl ?_
  have hb := hI.1
  have hK : KH Mb Mb := KT.rf
  refine aw_iload_n dX8_jar_0 rfl ?_
  refine aw_iconst (v := 0) dX8_jar_1 (by decide) ?_
  refine aw_bipush (v := 9) dX8_jar_2 (by decide) ?_
  refine aw_S3i (kc' := 3) (ks' := 21) dX8_jar_4 cs_X8_54 c_outside rfl (Nat.le_of_ble_eq_true rfl) (fun x4 M4 h4 => ?_)
  obtain ⟨rfl, e4⟩ := h4
  replace e4 := e4.symm
  subst e4
  rw [q_out_in]
  refine aw_if_ne (tgt := 21) dX8_jar_7 (by decide) (fun h7 => ?_) (fun h7 => ?_)
  · replace h7 := b2i_n.mp h7
    simp at h7
    refine aw_iconst (v := -1) dX8_jar_21 (by decide) ?_
    exact aw_iret dX8_jar_22 rfl ⟨Or.inl ⟨by first | (rw [h7]; rfl) | (rw [h18]; simp), rfl, α, rfl, hC⟩, hK⟩
  · replace h7 := b2i_0.mp h7
    simp at h7
    refine aw_iload_n dX8_jar_10 rfl ?_
    refine aw_iconst (v := 1) dX8_jar_11 (by decide) ?_
    refine aw_sipush (v := 200) dX8_jar_12 (by decide) ?_
    refine aw_S3i (kc' := 3) (ks' := 21) dX8_jar_15 cs_X8_54 c_outside rfl (Nat.le_of_ble_eq_true rfl) (fun x15 M15 h15 => ?_)
    obtain ⟨rfl, e15⟩ := h15
    replace e15 := e15.symm
    subst e15
    rw [q_out_in]
    refine aw_if_eq (tgt := 23) dX8_jar_18 (by decide) (fun h18 => ?_) (fun h18 => ?_)
    · replace h18 := b2i_0.mp h18
      simp at h18
      refine aw_iconst (v := 4) dX8_jar_23 (by decide) ?_
      refine aw_newaI (kc := 2) (ks := 17) (N := 4) (14, nj) dX8_jar_24 rfl tw_120 (by decide) (by decide) (by decide) (fun p9 hp9 => ?_)
      refine aw_dup dX8_jar_26 rfl ?_
      refine aw_iconst (v := 0) dX8_jar_27 (by decide) ?_
      refine aw_iload_n dX8_jar_28 rfl ?_
      refine aw_iast dX8_jar_29 ab_set_self (by unfold vp_in; decide) ?_
      rw [ab_set_set]
      refine aw_dup dX8_jar_30 rfl ?_
      refine aw_iconst (v := 1) dX8_jar_31 (by decide) ?_
      refine aw_iload dX8_jar_32 rfl ?_
      refine aw_iast dX8_jar_34 ab_set_self (by unfold vp_in; decide) ?_
      rw [ab_set_set]
      refine aw_dup dX8_jar_35 rfl ?_
      refine aw_iconst (v := 2) dX8_jar_36 (by decide) ?_
      refine aw_iload dX8_jar_37 rfl ?_
      refine aw_iast dX8_jar_39 ab_set_self (by unfold vp_in; decide) ?_
      rw [ab_set_set]
      refine aw_dup dX8_jar_40 rfl ?_
      refine aw_iconst (v := 3) dX8_jar_41 (by decide) ?_
      refine aw_iload dX8_jar_42 rfl ?_
      refine aw_iast dX8_jar_44 ab_set_self (by unfold vp_in; decide) ?_
      rw [ab_set_set]
      refine aw_astore dX8_jar_45 rfl (by decide) ?_
      refine aw_iconst (v := 0) dX8_jar_47 (by decide) ?_
      refine aw_istore dX8_jar_48 rfl (by decide) ?_
      replace h18 : (q_in fl 0 9 && q_in ho 1 200) = true := by rw [h7, h18]; rfl
      have hMp : ∃ M, M = ab_set Mb p9 (14, nj) (ab_ai g 4 (fm a b c d)) := ⟨_, rfl⟩
      obtain ⟨M, hM⟩ := hMp
      have hK0 : KT (fun _ => False) Mb M := kt_no hp9 hM
      have hp : M p9 = some ((14, nj), ab_ai g 4 (fm a b c d)) := by rw [hM]; exact ab_set_self
      have hC1 : CC g M α nf nj nm κ := ⟨hC.1.kp hK0 (fun _ => id), hC.2.1.kp hK0 (fun _ => id) (fun _ => id), hC.2.2.1.kp hK0 (fun _ => id) (fun _ => id), hC.2.2.2.1.kp hK0 (fun _ => id) (fun _ => id), hC.2.2.2.2.1.kp hK0 (fun _ => id), hC.2.2.2.2.2.1.kp hK0 (fun _ => id), hC.2.2.2.2.2.2.1.kp hK0 (fun _ => id) (fun _ => id), hC.2.2.2.2.2.2.2.1.kp hK0 (fun _ => id), hC.2.2.2.2.2.2.2.2.1.kp hK0 (fun _ => id) (fun _ => id), hC.2.2.2.2.2.2.2.2.2.kp hK0 (fun _ => id) (fun _ => id)⟩
      have hK1 : KH Mb M := hK0.wid (fun t h => h.elim)
      have key : ∀ (k i : Nat), i + k = nf → (∀ j, j < i → q_in ((fm a b c d) j) 1 30 = true) → AW l g ab_X0 (ab_Z g (ab_Qi (fun x M' => (((q_in fl 0 9 && q_in ho 1 200) = false ∧ x = -1 ∧ ∃ β, β 0 0 = α 0 0 ∧ CC g M' β nf nj nm κ) ∨ ((q_in fl 0 9 && q_in ho 1 200) = true ∧ ¬ okm nf (fm a b c d) ∧ x = -1 ∧ ∃ β, β 0 0 = α 0 0 ∧ CC g M' β nf nj nm κ) ∨ ((q_in fl 0 9 && q_in ho 1 200) = true ∧ okm nf (fm a b c d) ∧ x = (g_jar2 nf nj κ fl ho (fm a b c d)).1 ∧ ∃ β, β 0 0 = α 0 0 ∧ CC g M' β nf (g_jar2 nf nj κ fl ho (fm a b c d)).2.1 nm (g_jar2 nf nj κ fl ho (fm a b c d)).2.2)) ∧ KH Mb M'))) Y_X8_jar 5 108 2 17 50 [some (.ref (α 0 0)), some (.int fl), some (.int ho), some (.int a), some (.int b), some (.int c), some (.int d), some (.ref p9), some (.int (nI i))] [] M := by
        intro k
        induction k with
        | zero =>
          intro i hi hall
          have e : i = nf := by omega
          subst e
          clear hC hK
          have hC := hC1
          have hK := hK1
          have hok : okm i (fm a b c d) := hall
          refine aw_iload dX8_jar_50 rfl ?_
          refine aw_aload_n dX8_jar_52 rfl ?_
          refine aw_get dX8_jar_53 fg_X8_10_9 hC.1 rfl ?_
          obtain ⟨u56, v56, s56⟩ := szF hC
          refine aw_V0i (kc' := 2) (ks' := 17) dX8_jar_56 cs_X8_62_0 s56 (j_size s56) rfl (Nat.le_of_ble_eq_true rfl) (fun x56 M56 h56 => ?_)
          obtain ⟨rfl, e56⟩ := h56
          replace e56 := e56.symm
          subst e56
          refine aw_icmp_ge (tgt := 92) dX8_jar_59 (by decide) (fun h59 => ?_) (fun h59 => absurd (Int32.le_refl _) h59)
          refine aw_aload_n dX8_jar_92 rfl ?_
          refine aw_get dX8_jar_93 fg_X8_10_9 hC.1 rfl ?_
          obtain ⟨u96, v96, s96⟩ := szF hC
          refine aw_V0i (kc' := 2) (ks' := 17) dX8_jar_96 cs_X8_58_0 s96 (j_isEmpty s96) rfl (Nat.le_of_ble_eq_true rfl) (fun x96 M96 h96 => ?_)
          obtain ⟨rfl, e96⟩ := h96
          replace e96 := e96.symm
          subst e96
          refine aw_if_eq (tgt := 105) dX8_jar_99 (by decide) (fun h99 => ?_) (fun h99 => ?_)
          · replace h99 := b2i_0.mp h99
            have h99 := fun e => of_decide_eq_false h99 ((nI_eq_iff (b := 0) (by omega) (by omega)).mpr e)
            refine aw_aload_n dX8_jar_105 rfl ?_
            refine aw_get dX8_jar_106 fg_X8_16_9 hC.1 rfl ?_
            obtain ⟨u109, v109, s109⟩ := szJ hC
            refine aw_V0i (kc' := 2) (ks' := 17) dX8_jar_109 cs_X8_62_0 s109 (j_size s109) rfl (Nat.le_of_ble_eq_true rfl) (fun x109 M109 h109 => ?_)
            obtain ⟨rfl, e109⟩ := h109
            replace e109 := e109.symm
            subst e109
            refine aw_istore dX8_jar_112 rfl (by decide) ?_
            refine aw_iload dX8_jar_114 rfl ?_
            refine aw_bipush (v := 8) dX8_jar_116 (by decide) ?_
            refine aw_icmp_lt (tgt := 124) dX8_jar_118 (by decide) (fun h118 => ?_) (fun h118 => ?_)
            · have h118 : nj < 8 := by have h9 : nI nj < nI 8 := h118; rw [nI_ltI (by omega) (by omega)] at h9; exact h9
              refine aw_aload_n dX8_jar_124 rfl ?_
              refine aw_get dX8_jar_125 fg_X8_16_9 hC.1 rfl ?_
              refine aw_new (kc := 1) (ks := 10) (13, nj) [.int 0, .int 0, .int 0, .null, .int 0, .int 0, .int 0] dX8_jar_128 cl_5 tw_295 tw_296 tw_54 (fun j hj => by rcases (show j = 0 ∨ j = 1 ∨ j = 2 ∨ j = 3 ∨ j = 4 ∨ j = 5 ∨ j = 6 by omega) with rfl | rfl | rfl | rfl | rfl | rfl | rfl <;> rfl) (fun a9 ha9 => ?_)
              refine aw_dup dX8_jar_131 rfl ?_
              refine aw_iload dX8_jar_132 rfl ?_
              refine aw_iload_n dX8_jar_134 rfl ?_
              refine aw_iload_n dX8_jar_135 rfl ?_
              refine aw_aload dX8_jar_136 rfl ?_
              refine aw_I4v (kc' := 1) (ks' := 10) dX8_jar_138 cs_X8_77 (c_initJ ab_set_self) rfl (Nat.le_of_ble_eq_true rfl) (fun M138 h138 => ?_)
              rw [ab_set_set] at h138
              have hK2 : KT (fun _ => False) M M138 := kt_no ha9 h138
              have ha : M138 a9 = some ((13, nj), .inr (5, [.int (nI nj), .int fl, .int ho, .ref p9, .int 0, .int 0, .int 0])) := by rw [h138]; exact ab_set_self
              have hpp : M138 p9 = some ((14, nj), ab_ai g 4 (fm a b c d)) := hK2 _ _ _ hp id
              refine aw_addA (kc' := 0) (ks' := 0) dX8_jar_141 cs_X8_71_0 (by decide) (hC.2.2.2.2.2.2.2.2.1.2.1.keep hK2 id id) (by simp; omega) ⟨_, _, _, ha, rfl, nc_1101⟩ (by simp) rfl (Nat.le_of_ble_eq_true rfl) (fun M141 h141 hK141 => ?_)
              have hC9 := cadd_jar hC hb hK2 hpp ha hK141 (Or.inl h141) (fun m hm => by obtain ⟨i, hi, e⟩ := hI.2.2.2.1 m hm; rw [e, nI_cl (by omega)]; exact hi)
              refine aw_pop dX8_jar_144 rfl ?_
              refine aw_iload dX8_jar_145 rfl ?_
              exact aw_iret dX8_jar_147 rfl ⟨Or.inr (Or.inr ⟨h18, hok, by rw [g_jar2, if_neg h99, if_pos h118], up2 (up2 α 13 nj a9) 14 nj p9, rfl, by rw [g_jar2, if_neg h99, if_pos h118]; exact hC9⟩), hK.tr ((hK2.wid (fun t h => h.elim)).tr (hK141.wid (fun t h => by rcases h with h | h <;> (rw [h]; show _ < 20; decide))))⟩
            · have h118 : ¬ nj < 8 := fun q => h118 (show nI nj < nI 8 from (nI_ltI (by omega) (by omega)).mpr q)
              refine aw_bipush (v := -3) dX8_jar_121 (by decide) ?_
              exact aw_iret dX8_jar_123 rfl ⟨Or.inr (Or.inr ⟨h18, hok, by rw [g_jar2, if_neg h99, if_neg h118], α, rfl, by rw [g_jar2, if_neg h99, if_neg h118]; exact hC⟩), hK⟩
          · replace h99 := b2i_n.mp h99
            have h99 := (nI_eq_iff (b := 0) (by omega) (by omega)).mp (of_decide_eq_true h99)
            refine aw_bipush (v := -2) dX8_jar_102 (by decide) ?_
            exact aw_iret dX8_jar_104 rfl ⟨Or.inr (Or.inr ⟨h18, hok, by rw [g_jar2, if_pos h99], α, rfl, by rw [g_jar2, if_pos h99]; exact hC⟩), hK⟩
        | succ k ih =>
          intro i hi hall
          have hlt : i < nf := by omega
          have hin : vp_in (nI i) 4 := vp_in_nI (by omega) (by omega)
          have hcl := nI_cl (n := i) (by omega)
          clear hC hK
          have hC := hC1
          have hK := hK1
          refine aw_iload dX8_jar_50 rfl ?_
          refine aw_aload_n dX8_jar_52 rfl ?_
          refine aw_get dX8_jar_53 fg_X8_10_9 hC.1 rfl ?_
          obtain ⟨u56, v56, s56⟩ := szF hC
          refine aw_V0i (kc' := 2) (ks' := 17) dX8_jar_56 cs_X8_62_0 s56 (j_size s56) rfl (Nat.le_of_ble_eq_true rfl) (fun x56 M56 h56 => ?_)
          obtain ⟨rfl, e56⟩ := h56
          replace e56 := e56.symm
          subst e56
          refine aw_icmp_ge (tgt := 92) dX8_jar_59 (by decide) (fun h59 => absurd (nI_lt hlt (by omega)) (Int32.not_lt.mpr h59)) (fun h59 => ?_)
          refine aw_iload dX8_jar_62 rfl ?_
          refine aw_aload dX8_jar_64 rfl ?_
          refine aw_alen dX8_jar_66 hp 0 rfl rfl ?_
          refine aw_icmp_ge (tgt := 92) dX8_jar_67 (by decide) (fun h67 => absurd (show nI 4 ≤ nI i from h67) (by rw [nI_le_iff (by omega) (by omega)]; omega)) (fun h67 => ?_)
          refine aw_aload dX8_jar_70 rfl ?_
          refine aw_iload dX8_jar_72 rfl ?_
          refine aw_iald dX8_jar_74 hp hin ?_
          refine aw_iconst (v := 1) dX8_jar_75 (by decide) ?_
          refine aw_bipush (v := 30) dX8_jar_76 (by decide) ?_
          refine aw_S3i (kc' := 2) (ks' := 17) dX8_jar_78 cs_X8_54 c_outside rfl (Nat.le_of_ble_eq_true rfl) (fun x78 M78 h78 => ?_)
          obtain ⟨rfl, e78⟩ := h78
          replace e78 := e78.symm
          subst e78
          rw [q_out_in]
          refine aw_if_eq (tgt := 86) dX8_jar_81 (by decide) (fun h81 => ?_) (fun h81 => ?_)
          · replace h81 := b2i_0.mp h81
            simp at h81
            rw [hcl] at h81
            refine aw_iinc dX8_jar_86 rfl (ii_1 i) rfl (by decide) ?_
            refine aw_goto (tgt := 50) dX8_jar_89 (by decide) ?_
            exact ih (i + 1) (by omega) (fun j hj => by by_cases e : j = i; rw [e]; exact h81; exact hall j (by omega))
          · replace h81 := b2i_n.mp h81
            simp at h81
            rw [hcl] at h81
            refine aw_iconst (v := -1) dX8_jar_84 (by decide) ?_
            exact aw_iret dX8_jar_85 rfl ⟨Or.inr (Or.inl ⟨h18, (fun q => by have h9 := q i hlt; rw [h81] at h9; cases h9), rfl, α, rfl, hC⟩), hK⟩
      have h9 := key nf 0 (by omega) (fun j hj => absurd hj (by omega))
      rw [hM] at h9
      exact h9
    · replace h18 := b2i_n.mp h18
      simp at h18
      refine aw_iconst (v := -1) dX8_jar_21 (by decide) ?_
      exact aw_iret dX8_jar_22 rfl ⟨Or.inl ⟨by first | (rw [h7]; rfl) | (rw [h18]; simp), rfl, α, rfl, hC⟩, hK⟩
