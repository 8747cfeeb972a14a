/-! ===== the class's giving, 2 ===== -/
def fbF (tl lst : Nat → Int32) (s : Nat) : Nat → Nat → Nat
  | 0, _ => 0
  | r + 1, k => if ¬ q_tw tl lst s k = -1 ∧ q_tw tl lst s k = lst s then k else fbF tl lst s r (k + 1)
def q_fb (tl lst : Nat → Int32) (n s : Nat) : Nat := fbF tl lst s n 0
theorem fbF_lt {tl lst : Nat → Int32} {s n : Nat} (hn : 0 < n) : ∀ (r k : Nat), k + r = n → fbF tl lst s r k < n
  | 0, k, h => by
    rw [fbF]
    exact hn
  | r + 1, k, h => by
    rw [fbF]
    split
    · omega
    · exact fbF_lt hn r (k + 1) (by omega)
def k_st (tl lst : Nat → Int32) (n man : Nat) (jar : Int32) (i : Nat) (s : Nat × (Nat → Int32)) : Nat × (Nat → Int32) := (s.1 ||| 2 ^ q_fb tl lst n s.1, upd s.2 (man + i) (jar + nI (q_fb tl lst n s.1)))
def h_st (tl lst : Nat → Int32) (n man : Nat) (jar : Int32) (row : Nat → Int32) : Nat → Int32 := (lp (k_st tl lst n man jar) 0 n (0, lp (k_put (-4)) 0 10 row)).2
set_option maxRecDepth 100000 in
set_option maxHeartbeats 4000000 in
theorem c_firstBest {l : Launch} {g : ab_G} {M : ab_M} {α : Nat → Nat → Nat} {nf nj nm : Nat} {κ : cS} (hC : CC g M α nf nj nm κ) {s n : Nat} (hs : s < 64) (hn : n ≤ 6) : AM l g Y_X3_firstBest 2 44 0 0 [.ref (α 7 0), .int (nI s), .int (nI n)] M (ab_Qi (fun x M' => x = nI (q_fb (κ.1.2.1 38) (κ.1.2.1 39) n s) ∧ M' = M)) := by
  refine AM.of [some (.ref (α 7 0)), some (.int (nI s)), some (.int (nI n)), none, none] (by decide +kernel) (Nat.le_of_ble_eq_true rfl) rfl ?_
  have hins : vp_in (nI s) 64 := vp_in_nI (by omega) (by omega)
  have hcl := nI_cl (n := s) (by omega)
  have key : ∀ (r k : Nat), k + r = n → fbF (κ.1.2.1 38) (κ.1.2.1 39) s r k = q_fb (κ.1.2.1 38) (κ.1.2.1 39) n s → ∀ z4 : Option Value, AW l g ab_X0 (ab_Z g (ab_Qi (fun x M' => x = nI (q_fb (κ.1.2.1 38) (κ.1.2.1 39) n s) ∧ M' = M))) Y_X3_firstBest 2 44 0 0 2 [some (.ref (α 7 0)), some (.int (nI s)), some (.int (nI n)), some (.int (nI k)), z4] [] M := by
    intro r
    induction r with
    | zero =>
      intro k hk hq z4
      have e : k = n := by omega
      subst e
      refine aw_iload_n dX3_firstBest_2 rfl ?_
      refine aw_iload_n dX3_firstBest_3 rfl ?_
      refine aw_icmp_ge (tgt := 40) dX3_firstBest_4 (by decide) (fun h4 => ?_) (fun h4 => absurd (Int32.le_refl _) h4)
      refine aw_iconst (v := 0) dX3_firstBest_40 (by decide) ?_
      exact aw_iret dX3_firstBest_41 rfl ⟨by rw [← hq]; rfl, rfl⟩
    | succ r ih =>
      intro k hk hq z4
      have hlt : k < n := by omega
      rw [fbF] at hq
      refine aw_iload_n dX3_firstBest_2 rfl ?_
      refine aw_iload_n dX3_firstBest_3 rfl ?_
      refine aw_icmp_ge (tgt := 40) dX3_firstBest_4 (by decide) (fun h4 => absurd (nI_lt hlt (by omega)) (Int32.not_lt.mpr h4)) (fun h4 => ?_)
      refine aw_aload_n dX3_firstBest_7 rfl ?_
      refine aw_iload_n dX3_firstBest_8 rfl ?_
      refine aw_iload_n dX3_firstBest_9 rfl ?_
      refine aw_V2i (kc' := 0) (ks' := 0) dX3_firstBest_10 cs_X3_31_4 hC.2.2.2.1.1 (c_toilWith hC hs (by omega)) rfl (Nat.le_of_ble_eq_true rfl) (fun x10 M10 h10 => ?_)
      obtain ⟨rfl, e10⟩ := h10
      replace e10 := e10.symm
      subst e10
      refine aw_istore dX3_firstBest_13 rfl (by decide) ?_
      refine aw_iload dX3_firstBest_15 rfl ?_
      refine aw_iconst (v := -1) dX3_firstBest_17 (by decide) ?_
      refine aw_icmp_eq (tgt := 34) dX3_firstBest_18 (by decide) (fun h18 => ?_) (fun h18 => ?_)
      · rw [if_neg (fun q => q.1 h18)] at hq
        refine aw_iinc dX3_firstBest_34 rfl (ii_1 k) rfl (by decide) ?_
        refine aw_goto (tgt := 2) dX3_firstBest_37 (by decide) ?_
        exact ih (k + 1) (by omega) hq _
      · refine aw_iload dX3_firstBest_21 rfl ?_
        refine aw_aload_n dX3_firstBest_23 rfl ?_
        refine aw_get dX3_firstBest_24 fg_X3_15_4 hC.2.2.2.1.1 rfl ?_
        refine aw_iload_n dX3_firstBest_27 rfl ?_
        refine aw_iald dX3_firstBest_28 hC.2.2.2.1.2.2.1 hins ?_
        refine aw_icmp_ne (tgt := 34) dX3_firstBest_29 (by decide) (fun h29 => ?_) (fun h29 => ?_)
        · rw [hcl] at h29
          rw [if_neg (fun q => h29 q.2)] at hq
          refine aw_iinc dX3_firstBest_34 rfl (ii_1 k) rfl (by decide) ?_
          refine aw_goto (tgt := 2) dX3_firstBest_37 (by decide) ?_
          exact ih (k + 1) (by omega) hq _
        · rw [hcl] at h29
          rw [if_pos ⟨h18, h29⟩] at hq
          refine aw_iload_n dX3_firstBest_32 rfl ?_
          exact aw_iret dX3_firstBest_33 rfl ⟨by rw [← hq], rfl⟩
  refine aw_iconst (v := 0) dX3_firstBest_0 (by decide) ?_
  refine aw_istore_n dX3_firstBest_1 rfl (by decide) ?_
  exact key n 0 (by omega) rfl none
set_option maxRecDepth 100000 in
set_option maxHeartbeats 4000000 in
theorem c_settle {l : Launch} {g : ab_G} {Mb : ab_M} {α : Nat → Nat → Nat} {nf nj nm : Nat} {κ : cS} (hC : CC g Mb α nf nj nm κ) {n man : Nat} {jar : Int32} (hn0 : 0 < n) (hn : n ≤ 6) (hmn : man + n ≤ 10) : AM l g Y_X3_settle 3 68 0 0 [.ref (α 7 0), .int (nI man), .int jar, .int (nI n)] Mb (ab_Qv (fun M' => CC g M' α nf nj nm (cr κ 40 (h_st (κ.1.2.1 38) (κ.1.2.1 39) n man jar (κ.1.2.1 40))) ∧ KH Mb M')) := by
  refine AM.of [some (.ref (α 7 0)), some (.int (nI man)), some (.int jar), some (.int (nI n)), none, none, none] (by decide +kernel) (Nat.le_of_ble_eq_true rfl) rfl ?_
  have hK : KH Mb Mb := KT.rf
  refine aw_aload_n dX3_settle_0 rfl ?_
  refine aw_get dX3_settle_1 fg_X3_18_4 hC.2.2.2.1.1 rfl ?_
  refine aw_bipush (v := -4) dX3_settle_4 (by decide) ?_
  refine aw_S2v (kc' := 0) (ks' := 0) dX3_settle_6 cs_X3_21 (j_fill (by decide) hC.2.2.2.1.2.2.2) rfl (Nat.le_of_ble_eq_true rfl) (fun M6 h6 => ?_)
  replace hK : KH Mb M6 := by rw [h6]; exact hK.put hC.2.2.2.1.2.2.2 (show 8 < 20 by decide)
  replace hC : CC g M6 α nf nj nm (cr κ 40 (lp (k_put (-4)) 0 10 (κ.1.2.1 40))) := by rw [h6]; exact cset_jarsOfMen hC _
  refine aw_iconst (v := 0) dX3_settle_9 (by decide) ?_
  refine aw_istore dX3_settle_10 rfl (by decide) ?_
  refine aw_iconst (v := 0) dX3_settle_12 (by decide) ?_
  refine aw_istore dX3_settle_13 rfl (by decide) ?_
  refine gl (fun s M9 => CC g M9 α nf nj nm (cr κ 40 s.2) ∧ KH Mb M9) (fun i s M9 => ∀ z6 : Option Value, AW l g ab_X0 (ab_Z g (ab_Qv (fun M' => CC g M' α nf nj nm (cr κ 40 (h_st (κ.1.2.1 38) (κ.1.2.1 39) n man jar (κ.1.2.1 40))) ∧ KH Mb M'))) Y_X3_settle 3 68 0 0 15 [some (.ref (α 7 0)), some (.int (nI man)), some (.int jar), some (.int (nI n)), some (.int (nI (s.1))), some (.int (nI i)), z6] [] M9) (k_st (κ.1.2.1 38) (κ.1.2.1 39) n man jar) (fun _ s => s.1 < 64) n (fun i s hi h => (or_eq _ (by have := fbF_lt (tl := (κ.1.2.1 38)) (lst := (κ.1.2.1 39)) (s := s.1) hn0 n 0 (by omega); unfold q_fb; omega) s.1 h).2) ?_ n 0 (0, lp (k_put (-4)) 0 10 (κ.1.2.1 40)) _ (Nat.zero_add _) (by show 0 < 64; decide) ⟨hC, hK⟩ ?_ none
  · clear hC hK
    intro i s M hi h64 hp kk z6
    obtain ⟨hC, hK⟩ := hp
    have hfb : q_fb (κ.1.2.1 38) (κ.1.2.1 39) n s.1 < n := fbF_lt hn0 n 0 (by omega)
    obtain ⟨eo1, eo2⟩ := or_eq (q_fb (κ.1.2.1 38) (κ.1.2.1 39) n s.1) (by omega) s.1 h64
    have ea : nI man + nI i = nI (man + i) := nI_add man i
    have hcl := nI_cl (n := man + i) (by omega)
    have hin : vp_in (nI (man + i)) 10 := vp_in_nI (by omega) (by omega)
    have kk : ∀ (M8 : ab_M), CC g M8 α nf nj nm (cr κ 40 (k_st (κ.1.2.1 38) (κ.1.2.1 39) n man jar i s).2) → KH Mb M8 → ∀ z6, AW l g ab_X0 (ab_Z g (ab_Qv (fun M' => CC g M' α nf nj nm (cr κ 40 (h_st (κ.1.2.1 38) (κ.1.2.1 39) n man jar (κ.1.2.1 40))) ∧ KH Mb M'))) Y_X3_settle 3 68 0 0 15 [some (.ref (α 7 0)), some (.int (nI man)), some (.int jar), some (.int (nI n)), some (.int (nI ((k_st (κ.1.2.1 38) (κ.1.2.1 39) n man jar i s).1))), some (.int (nI (i + 1))), z6] [] M8 := fun M8 hC hK => kk M8 ⟨hC, hK⟩ eo2
    refine aw_iload dX3_settle_15 rfl ?_
    refine aw_iload_n dX3_settle_17 rfl ?_
    refine aw_icmp_ge (tgt := 70) dX3_settle_18 (by decide) (fun h18 => absurd (nI_lt hi (by omega)) (Int32.not_lt.mpr h18)) (fun h18 => ?_)
    refine aw_iload_n dX3_settle_21 rfl ?_
    refine aw_iload dX3_settle_22 rfl ?_
    refine aw_iadd dX3_settle_24 ?_
    rw [ea]
    refine aw_aload_n dX3_settle_25 rfl ?_
    refine aw_get dX3_settle_26 fg_X3_18_4 hC.2.2.2.1.1 rfl ?_
    refine aw_alen dX3_settle_29 hC.2.2.2.1.2.2.2 0 rfl rfl ?_
    refine aw_icmp_ge (tgt := 70) dX3_settle_30 (by decide) (fun h30 => absurd (show nI 10 ≤ nI (man + i) from h30) (by rw [nI_le_iff (by omega) (by omega)]; omega)) (fun h30 => ?_)
    refine aw_aload_n dX3_settle_33 rfl ?_
    refine aw_iload dX3_settle_34 rfl ?_
    refine aw_iload_n dX3_settle_36 rfl ?_
    refine aw_V2i (kc' := 0) (ks' := 0) dX3_settle_37 cs_X3_41_4 hC.2.2.2.1.1 (c_firstBest (κ := cr κ 40 s.2) hC h64 hn) rfl (Nat.le_of_ble_eq_true rfl) (fun x37 M37 h37 => ?_)
    obtain ⟨rfl, e37⟩ := h37
    replace e37 := e37.symm
    subst e37
    rw [show q_fb ((cr κ 40 s.2).1.2.1 38) ((cr κ 40 s.2).1.2.1 39) n s.1 = q_fb (κ.1.2.1 38) (κ.1.2.1 39) n s.1 from rfl]
    refine aw_istore dX3_settle_40 rfl (by decide) ?_
    refine aw_aload_n dX3_settle_42 rfl ?_
    refine aw_get dX3_settle_43 fg_X3_18_4 hC.2.2.2.1.1 rfl ?_
    refine aw_iload_n dX3_settle_46 rfl ?_
    refine aw_iload dX3_settle_47 rfl ?_
    refine aw_iadd dX3_settle_49 ?_
    rw [ea]
    refine aw_iload_n dX3_settle_50 rfl ?_
    refine aw_iload dX3_settle_51 rfl ?_
    refine aw_iadd dX3_settle_53 ?_
    refine cw_s_jarsOfMen dX3_settle_54 hin hC hK (fun M hC hK => ?_)
    refine aw_iload dX3_settle_55 rfl ?_
    refine aw_iconst (v := 1) dX3_settle_57 (by decide) ?_
    refine aw_iload dX3_settle_58 rfl ?_
    refine aw_ishl dX3_settle_60 ?_
    refine aw_ior dX3_settle_61 ?_
    rw [eo1]
    refine aw_istore dX3_settle_62 rfl (by decide) ?_
    refine aw_iinc dX3_settle_64 rfl (ii_1 i) rfl (by decide) ?_
    refine aw_goto (tgt := 15) dX3_settle_67 (by decide) ?_
    exact kk _ (by have h9 := hC; rw [hcl, cp_cr] at h9; exact h9) hK _
  · clear hC hK
    intro M hp _ z6
    obtain ⟨hC, hK⟩ := hp
    refine aw_iload dX3_settle_15 rfl ?_
    refine aw_iload_n dX3_settle_17 rfl ?_
    refine aw_icmp_ge (tgt := 70) dX3_settle_18 (by decide) (fun h18 => ?_) (fun h18 => absurd (Int32.le_refl _) h18)
    exact aw_vret dX3_settle_70 rfl ⟨hC, hK⟩
def k_t2 (κ : cS) (man jar i k : Nat) (row : Nat → Int32) : Nat → Int32 := upd row (6 * i + k) (q_toilC κ (man + i) (jar + k))
def k_t1 (κ : cS) (man jar n i : Nat) (row : Nat → Int32) : Nat → Int32 := lp (k_t2 κ man jar i) 0 n row
def h_tl (κ : cS) (man jar n : Nat) : Nat → Int32 := lp (k_t1 κ man jar n) 0 n (κ.1.2.1 38)
def h_ls (κ : cS) (man jar n : Nat) : Nat → Int32 := h_least (h_tl κ man jar n) (κ.1.2.1 39) n
def g_give (κ : cS) (man jar n : Nat) : Int32 × cS := if h_ls κ man jar n 0 = -1 then (-4, cr (cr κ 38 (h_tl κ man jar n)) 39 (h_ls κ man jar n)) else (h_ls κ man jar n 0, cr (cr (cr κ 38 (h_tl κ man jar n)) 39 (h_ls κ man jar n)) 40 (h_st (h_tl κ man jar n) (h_ls κ man jar n) n man (nI jar) (κ.1.2.1 40)))
theorem give_in {a : Int32} {N n : Nat} (hN : N ≤ 10) (hn : n ≤ 6) : q_in a 0 (nI N - nI n) = true → ∃ k : Nat, k + n ≤ N ∧ a = nI k := by
  intro h
  have h1 := q_in_iff.mp h
  rw [t_0, fb_subI (by rw [nI_toInt (by omega), nI_toInt (by omega)]; omega) (by rw [nI_toInt (by omega), nI_toInt (by omega)]; omega), nI_toInt (by omega), nI_toInt (by omega)] at h1
  refine ⟨a.toInt.toNat, by omega, ?_⟩
  apply Int32.toInt_inj.mp
  rw [nI_toInt (by omega)]
  omega
set_option maxRecDepth 100000 in
set_option maxHeartbeats 4000000 in
theorem c_give {l : Launch} {g : ab_G} {Mb : ab_M} {α : Nat → Nat → Nat} {nf nj nm : Nat} {κ : cS} (hC : CC g Mb α nf nj nm κ) (hI : cI0 nf nj nm κ) {mm jj nn : Int32} : AM l g Y_X8_give 5 105 0 0 [.ref (α 0 0), .int mm, .int jj, .int nn] Mb (ab_Qi (fun x M' => (((q_in nn 1 6 && (q_in mm 0 (κ.1.1 12 - nn) && q_in jj 0 (κ.1.1 5 - nn))) = false ∧ x = -1 ∧ CC g M' α nf nj nm κ) ∨ ∃ n9 m9 j9, 0 < n9 ∧ n9 ≤ 6 ∧ m9 + n9 ≤ nm ∧ j9 + n9 ≤ nj ∧ nn = nI n9 ∧ mm = nI m9 ∧ jj = nI j9 ∧ (q_in nn 1 6 && (q_in mm 0 (κ.1.1 12 - nn) && q_in jj 0 (κ.1.1 5 - nn))) = true ∧ x = (g_give κ m9 j9 n9).1 ∧ CC g M' α nf nj nm (g_give κ m9 j9 n9).2) ∧ KH Mb M')) := by
  refine AM.of [some (.ref (α 0 0)), some (.int mm), some (.int jj), some (.int nn), none, none] (by decide +kernel) (Nat.le_of_ble_eq_true rfl) rfl ?_
  have hb := hI.1
  have hK : KH Mb Mb := KT.rf
  have e12 := hI.2.1.2.2
  have e5 := hI.2.1.2.1
  refine aw_iload_n dX8_give_0 rfl ?_
  refine aw_iconst (v := 1) dX8_give_1 (by decide) ?_
  refine aw_bipush (v := 6) dX8_give_2 (by decide) ?_
  refine aw_S3i (kc' := 0) (ks' := 0) dX8_give_4 cs_X8_54 c_outside rfl (Nat.le_of_ble_eq_true rfl) (fun x4 M4 h4 => ?_)
  obtain ⟨rfl, e4⟩ := h4
  replace e4 := e4.symm
  subst e4
  rw [q_out_in]
  refine aw_if_eq (tgt := 12) dX8_give_7 (by decide) (fun h7 => ?_) (fun h7 => ?_)
  · replace h7 := b2i_0.mp h7
    simp at h7
    refine aw_iload_n dX8_give_12 rfl ?_
    refine aw_iconst (v := 0) dX8_give_13 (by decide) ?_
    refine aw_aload_n dX8_give_14 rfl ?_
    refine aw_get dX8_give_15 fg_X8_19_9 hC.1 rfl ?_
    obtain ⟨u18, v18, s18⟩ := szM hC
    refine aw_V0i (kc' := 0) (ks' := 0) dX8_give_18 cs_X8_62_0 s18 (j_size s18) rfl (Nat.le_of_ble_eq_true rfl) (fun x18 M18 h18 => ?_)
    obtain ⟨rfl, e18⟩ := h18
    replace e18 := e18.symm
    subst e18
    refine aw_iload_n dX8_give_21 rfl ?_
    refine aw_isub dX8_give_22 ?_
    refine aw_S3i (kc' := 0) (ks' := 0) dX8_give_23 cs_X8_54 c_outside rfl (Nat.le_of_ble_eq_true rfl) (fun x23 M23 h23 => ?_)
    obtain ⟨rfl, e23⟩ := h23
    replace e23 := e23.symm
    subst e23
    rw [q_out_in]
    refine aw_if_ne (tgt := 46) dX8_give_26 (by decide) (fun h26 => ?_) (fun h26 => ?_)
    · replace h26 := b2i_n.mp h26
      simp at h26
      refine aw_iconst (v := -1) dX8_give_46 (by decide) ?_
      exact aw_iret dX8_give_47 rfl ⟨Or.inl ⟨by rw [e12, e5]; first | (rw [h26]; simp; done) | (rw [h43]; simp; done), rfl, hC⟩, hK⟩
    · replace h26 := b2i_0.mp h26
      simp at h26
      refine aw_iload_n dX8_give_29 rfl ?_
      refine aw_iconst (v := 0) dX8_give_30 (by decide) ?_
      refine aw_aload_n dX8_give_31 rfl ?_
      refine aw_get dX8_give_32 fg_X8_16_9 hC.1 rfl ?_
      obtain ⟨u35, v35, s35⟩ := szJ hC
      refine aw_V0i (kc' := 0) (ks' := 0) dX8_give_35 cs_X8_62_0 s35 (j_size s35) rfl (Nat.le_of_ble_eq_true rfl) (fun x35 M35 h35 => ?_)
      obtain ⟨rfl, e35⟩ := h35
      replace e35 := e35.symm
      subst e35
      refine aw_iload_n dX8_give_38 rfl ?_
      refine aw_isub dX8_give_39 ?_
      refine aw_S3i (kc' := 0) (ks' := 0) dX8_give_40 cs_X8_54 c_outside rfl (Nat.le_of_ble_eq_true rfl) (fun x40 M40 h40 => ?_)
      obtain ⟨rfl, e40⟩ := h40
      replace e40 := e40.symm
      subst e40
      rw [q_out_in]
      refine aw_if_eq (tgt := 48) dX8_give_43 (by decide) (fun h43 => ?_) (fun h43 => ?_)
      · replace h43 := b2i_0.mp h43
        simp at h43
        have hall : (q_in nn 1 6 && (q_in mm 0 (κ.1.1 12 - nn) && q_in jj 0 (κ.1.1 5 - nn))) = true := by rw [e12, e5, h7, h26, h43]; rfl
        have hn1 := (q_in_iff.mp h7).1
        obtain ⟨n, hn6, rfl⟩ := in_nat (b := 6) h7 (by decide) (by decide) (by decide)
        obtain ⟨man, hman, rfl⟩ := give_in (by omega) hn6 h26
        obtain ⟨jar, hjar, rfl⟩ := give_in (by omega) hn6 h43
        have hn0 : 0 < n := by rw [t_1, nI_toInt (by omega)] at hn1; omega
        refine aw_iconst (v := 0) dX8_give_48 (by decide) ?_
        refine aw_istore dX8_give_49 rfl (by decide) ?_
        refine gl (fun row M9 => CC g M9 α nf nj nm (cr κ 38 row) ∧ KH Mb M9) (fun i row M9 => ∀ z5 : Option Value, AW l g ab_X0 (ab_Z g (ab_Qi (fun x M' => (((q_in (nI n) 1 6 && (q_in (nI man) 0 (κ.1.1 12 - (nI n)) && q_in (nI jar) 0 (κ.1.1 5 - (nI n)))) = false ∧ x = -1 ∧ CC g M' α nf nj nm κ) ∨ ∃ n9 m9 j9, 0 < n9 ∧ n9 ≤ 6 ∧ m9 + n9 ≤ nm ∧ j9 + n9 ≤ nj ∧ (nI n) = nI n9 ∧ (nI man) = nI m9 ∧ (nI jar) = nI j9 ∧ (q_in (nI n) 1 6 && (q_in (nI man) 0 (κ.1.1 12 - (nI n)) && q_in (nI jar) 0 (κ.1.1 5 - (nI n)))) = true ∧ x = (g_give κ m9 j9 n9).1 ∧ CC g M' α nf nj nm (g_give κ m9 j9 n9).2) ∧ KH Mb M'))) Y_X8_give 5 105 0 0 51 [some (.ref (α 0 0)), some (.int (nI man)), some (.int (nI jar)), some (.int (nI n)), some (.int (nI i)), z5] [] M9) (k_t1 κ man jar n) (fun _ _ => True) n (fun _ _ _ _ => trivial) ?_ n 0 (κ.1.2.1 38) _ (Nat.zero_add _) trivial ⟨by have e9 : cr κ 38 (κ.1.2.1 38) = κ := (by unfold cr; rw [ra_id rfl]); rw [e9]; exact hC, hK⟩ ?_ none
        · clear hC hK
          intro i row M hi _ hp kk z5
          obtain ⟨hC, hK⟩ := hp
          refine aw_iload dX8_give_51 rfl ?_
          refine aw_iload_n dX8_give_53 rfl ?_
          refine aw_icmp_ge (tgt := 120) dX8_give_54 (by decide) (fun h54 => absurd (nI_lt hi (by omega)) (Int32.not_lt.mpr h54)) (fun h54 => ?_)
          refine aw_iconst (v := 0) dX8_give_57 (by decide) ?_
          refine aw_istore dX8_give_58 rfl (by decide) ?_
          refine gl (fun row M9 => CC g M9 α nf nj nm (cr κ 38 row) ∧ KH Mb M9) (fun k row M9 => AW l g ab_X0 (ab_Z g (ab_Qi (fun x M' => (((q_in (nI n) 1 6 && (q_in (nI man) 0 (κ.1.1 12 - (nI n)) && q_in (nI jar) 0 (κ.1.1 5 - (nI n)))) = false ∧ x = -1 ∧ CC g M' α nf nj nm κ) ∨ ∃ n9 m9 j9, 0 < n9 ∧ n9 ≤ 6 ∧ m9 + n9 ≤ nm ∧ j9 + n9 ≤ nj ∧ (nI n) = nI n9 ∧ (nI man) = nI m9 ∧ (nI jar) = nI j9 ∧ (q_in (nI n) 1 6 && (q_in (nI man) 0 (κ.1.1 12 - (nI n)) && q_in (nI jar) 0 (κ.1.1 5 - (nI n)))) = true ∧ x = (g_give κ m9 j9 n9).1 ∧ CC g M' α nf nj nm (g_give κ m9 j9 n9).2) ∧ KH Mb M'))) Y_X8_give 5 105 0 0 60 [some (.ref (α 0 0)), some (.int (nI man)), some (.int (nI jar)), some (.int (nI n)), some (.int (nI i)), some (.int (nI k))] [] M9) (k_t2 κ man jar i) (fun _ _ => True) n (fun _ _ _ _ => trivial) ?_ n 0 row _ (Nat.zero_add _) trivial ⟨hC, hK⟩ ?_
          · clear hC hK kk
            intro k row M hk _ hp kk
            obtain ⟨hC, hK⟩ := hp
            have ea : nI man + nI i = nI (man + i) := nI_add man i
            have eb : nI jar + nI k = nI (jar + k) := nI_add jar k
            have hmi : man + i < nm := by omega
            have hjk : jar + k < nj := by omega
            refine aw_iload dX8_give_60 rfl ?_
            refine aw_iload_n dX8_give_62 rfl ?_
            refine aw_icmp_ge (tgt := 114) dX8_give_63 (by decide) (fun h63 => absurd (nI_lt hk (by omega)) (Int32.not_lt.mpr h63)) (fun h63 => ?_)
            refine aw_aload_n dX8_give_66 rfl ?_
            refine aw_get dX8_give_67 fg_X8_39_9 hC.1 rfl ?_
            refine aw_iload dX8_give_70 rfl ?_
            refine aw_iload dX8_give_72 rfl ?_
            refine aw_aload_n dX8_give_74 rfl ?_
            refine aw_get dX8_give_75 fg_X8_19_9 hC.1 rfl ?_
            refine aw_iload_n dX8_give_78 rfl ?_
            refine aw_iload dX8_give_79 rfl ?_
            refine aw_iadd dX8_give_81 ?_
            rw [ea]
            obtain ⟨u82, v82, s82⟩ := szM hC
            refine aw_V1r (kc' := 0) (ks' := 0) dX8_give_82 cs_X8_187_0 s82 (w_getM hC hmi) rfl (Nat.le_of_ble_eq_true rfl) (fun x82 M82 h82 => ?_)
            obtain ⟨rfl, e82⟩ := h82
            replace e82 := e82.symm
            subst e82
            refine aw_castMan dX8_give_85 tw_449 (cMan hC hmi) ?_
            refine aw_aload_n dX8_give_88 rfl ?_
            refine aw_get dX8_give_89 fg_X8_16_9 hC.1 rfl ?_
            refine aw_iload_n dX8_give_92 rfl ?_
            refine aw_iload dX8_give_93 rfl ?_
            refine aw_iadd dX8_give_95 ?_
            rw [eb]
            obtain ⟨u96, v96, s96⟩ := szJ hC
            refine aw_V1r (kc' := 0) (ks' := 0) dX8_give_96 cs_X8_187_0 s96 (w_getJ hC hjk) rfl (Nat.le_of_ble_eq_true rfl) (fun x96 M96 h96 => ?_)
            obtain ⟨rfl, e96⟩ := h96
            replace e96 := e96.symm
            subst e96
            refine aw_castS dX8_give_99 tw_295 (gJ hC hjk) rfl ?_
            refine aw_V1i (kc' := 0) (ks' := 0) dX8_give_102 (csM_X8_204 _) (gM hC hmi) (w_toilFor hC (show cI0 nf nj nm (cr κ 38 row) from hI) hmi hjk) rfl (Nat.le_of_ble_eq_true rfl) (fun x102 M102 h102 => ?_)
            obtain ⟨rfl, e102⟩ := h102
            replace e102 := e102.symm
            subst e102
            refine aw_V3v (kc' := 0) (ks' := 0) dX8_give_105 cs_X8_207_4 hC.2.2.2.1.1 (c_setToil hC (by omega) (by omega)) rfl (Nat.le_of_ble_eq_true rfl) (fun M105 h105 => ?_)
            obtain ⟨hC, hK9⟩ := h105
            replace hK := hK.tr hK9
            rw [cp_cr] at hC
            refine aw_iinc dX8_give_108 rfl (ii_1 k) rfl (by decide) ?_
            refine aw_goto (tgt := 60) dX8_give_111 (by decide) ?_
            exact kk _ ⟨hC, hK⟩ trivial
          · clear hC hK
            intro M hp _
            obtain ⟨hC, hK⟩ := hp
            refine aw_iload dX8_give_60 rfl ?_
            refine aw_iload_n dX8_give_62 rfl ?_
            refine aw_icmp_ge (tgt := 114) dX8_give_63 (by decide) (fun h63 => ?_) (fun h63 => absurd (Int32.le_refl _) h63)
            refine aw_iinc dX8_give_114 rfl (ii_1 i) rfl (by decide) ?_
            refine aw_goto (tgt := 51) dX8_give_117 (by decide) ?_
            exact kk _ ⟨hC, hK⟩ trivial _
        · clear hC hK
          intro M hp _ z5
          obtain ⟨hC, hK⟩ := hp
          have htl : lp (k_t1 κ man jar n) 0 n (κ.1.2.1 38) = h_tl κ man jar n := rfl
          rw [htl] at hC
          refine aw_iload dX8_give_51 rfl ?_
          refine aw_iload_n dX8_give_53 rfl ?_
          refine aw_icmp_ge (tgt := 120) dX8_give_54 (by decide) (fun h54 => ?_) (fun h54 => absurd (Int32.le_refl _) h54)
          refine aw_aload_n dX8_give_120 rfl ?_
          refine aw_get dX8_give_121 fg_X8_39_9 hC.1 rfl ?_
          refine aw_iload_n dX8_give_124 rfl ?_
          refine aw_V1i (kc' := 0) (ks' := 0) dX8_give_125 cs_X8_211_4 hC.2.2.2.1.1 (c_findLeast (κ := cr κ 38 (h_tl κ man jar n)) hC hn6 h7) rfl (Nat.le_of_ble_eq_true rfl) (fun x125 M125 h125 => ?_)
          obtain ⟨e125, hC, hK9⟩ := h125
          replace hK := hK.tr hK9
          replace hC : CC g M125 α nf nj nm (cr (cr κ 38 (h_tl κ man jar n)) 39 (h_ls κ man jar n)) := hC
          replace e125 : x125 = h_ls κ man jar n 0 := e125
          subst e125
          refine aw_istore dX8_give_128 rfl (by decide) ?_
          refine aw_iload dX8_give_130 rfl ?_
          refine aw_iconst (v := -1) dX8_give_132 (by decide) ?_
          refine aw_icmp_ne (tgt := 139) dX8_give_133 (by decide) (fun h133 => ?_) (fun h133 => ?_)
          · refine aw_aload_n dX8_give_139 rfl ?_
            refine aw_get dX8_give_140 fg_X8_39_9 hC.1 rfl ?_
            refine aw_iload_n dX8_give_143 rfl ?_
            refine aw_iload_n dX8_give_144 rfl ?_
            refine aw_iload_n dX8_give_145 rfl ?_
            refine aw_V3v (kc' := 0) (ks' := 0) dX8_give_146 cs_X8_214_4 hC.2.2.2.1.1 (c_settle (κ := cr (cr κ 38 (h_tl κ man jar n)) 39 (h_ls κ man jar n)) hC hn0 hn6 (by omega)) rfl (Nat.le_of_ble_eq_true rfl) (fun M146 h146 => ?_)
            obtain ⟨hC, hK9⟩ := h146
            replace hK := hK.tr hK9
            refine aw_iload dX8_give_149 rfl ?_
            exact aw_iret dX8_give_151 rfl ⟨Or.inr ⟨n, man, jar, hn0, hn6, hman, hjar, rfl, rfl, rfl, hall, by rw [g_give, if_neg h133], by rw [g_give, if_neg h133]; exact hC⟩, hK⟩
          · refine aw_bipush (v := -4) dX8_give_136 (by decide) ?_
            exact aw_iret dX8_give_138 rfl ⟨Or.inr ⟨n, man, jar, hn0, hn6, hman, hjar, rfl, rfl, rfl, hall, by rw [g_give, if_pos h133], by rw [g_give, if_pos h133]; exact hC⟩, hK⟩
      · replace h43 := b2i_n.mp h43
        simp at h43
        refine aw_iconst (v := -1) dX8_give_46 (by decide) ?_
        exact aw_iret dX8_give_47 rfl ⟨Or.inl ⟨by rw [e12, e5]; first | (rw [h26]; simp; done) | (rw [h43]; simp; done), rfl, hC⟩, hK⟩
  · replace h7 := b2i_n.mp h7
    simp at h7
    refine aw_iconst (v := -1) dX8_give_10 (by decide) ?_
    exact aw_iret dX8_give_11 rfl ⟨Or.inl ⟨by rw [h7]; rfl, rfl, hC⟩, hK⟩
