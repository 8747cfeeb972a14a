/-! ===== the class's public methods, 3: fire, pourings ===== -/
theorem j_inj {g : ab_G} {M : ab_M} {α : Nat → Nat → Nat} {nf nj nm m x : Nat} {κ : cS} (hC : CC g M α nf nj nm κ) (hm : m < nj) (hx : x < nj) (h : α 13 x = α 13 m) : x = m := by
  have h1 := gJ hC hm
  rw [← h, gJ hC hx] at h1
  exact congrArg (fun q : Option ((Nat × Nat) × va_E) => (q.map (fun z => z.1.2)).getD 0) h1
def k_cfire (j w : Int32) (i : Nat) (s : Int32 × cS) : Int32 × cS := if (s.2.1.2.1 19 i = 1 ∧ s.2.1.2.1 16 i = j) ∧ ¬ w < s.2.1.2.1 20 i then (s.1 + s.2.1.2.1 21 i, g_down (cp s.2 21 i 0) i) else s
theorem k_cfire0 {nf nj nm : Nat} {j w : Int32} {i : Nat} {s : Int32 × cS} (h : cI0 nf nj nm s.2) : cI0 nf nj nm (k_cfire j w i s).2 := by
  unfold k_cfire
  split
  · exact h
  · exact h
def q_cfire (κ : cS) (nm : Nat) (j w : Int32) : Int32 × cS := lp (k_cfire j w) 0 nm (0, κ)
def g_fire (κ : cS) (nm : Nat) (j w : Int32) : Int32 × cS := if (q_isJ κ.1 j && q_in w 0 60) = true then ((q_cfire κ nm j w).1, cl (q_cfire κ nm j w).2 5 ((q_cfire κ nm j w).2.1.2.2 5 + (q_cfire κ nm j w).1.toInt64)) else (-1, κ)
set_option maxRecDepth 100000 in
set_option maxHeartbeats 4000000 in
theorem c_fire {l : Launch} {g : ab_G} {Mb : ab_M} {α : Nat → Nat → Nat} {nf nj nm : Nat} {κ : cS} (hC : CC g Mb α nf nj nm κ) (hI : cI0 nf nj nm κ) {jj w : Int32} : AM l g Y_X8_fire 4 85 0 0 [.ref (α 0 0), .int jj, .int w] Mb (ab_Qi (fun x M' => x = (g_fire κ nm jj w).1 ∧ CC g M' α nf nj nm (g_fire κ nm jj w).2 ∧ KH Mb M')) := by
  refine AM.of [some (.ref (α 0 0)), some (.int jj), some (.int w), none, none, none, none] (by decide +kernel) (Nat.le_of_ble_eq_true rfl) rfl ?_
  have hb := hI.1
  have hK : KH Mb Mb := KT.rf
  refine aw_aload_n dX8_fire_0 rfl ?_
  refine aw_iload_n dX8_fire_1 rfl ?_
  refine aw_V1q (kc' := 0) (ks' := 0) dX8_fire_2 cs_X8_80_9 hC.1 (w_jarAt hC) rfl (Nat.le_of_ble_eq_true rfl) (fun x2 M2 h2 => ?_)
  obtain ⟨rfl, e2⟩ := h2
  replace e2 := e2.symm
  subst e2
  rcases at_J hI (α 13) jj with ⟨e2, q2⟩ | ⟨k, hk, rfl, e2, q2⟩
  · rw [e2]
    refine aw_astore_nN dX8_fire_5 rfl (by decide) ?_
    refine aw_aload_nN dX8_fire_6 rfl ?_
    refine aw_ifnullN (tgt := 20) dX8_fire_7 (by decide) ?_
    refine aw_iconst (v := -1) dX8_fire_20 (by decide) ?_
    exact aw_iret dX8_fire_21 rfl (by refine ⟨?_, ?_, hK⟩ <;> first | (simp [g_fire, q2, *]; done) | (simp [g_fire, q2, *]; exact hC))
  · rw [e2]
    have ck := nI_cl (n := k) (by omega)
    refine aw_astore_n dX8_fire_5 rfl (by decide) ?_
    refine aw_aload_n dX8_fire_6 rfl ?_
    refine aw_ifnull dX8_fire_7 ?_
    refine aw_iload_n dX8_fire_10 rfl ?_
    refine aw_iconst (v := 0) dX8_fire_11 (by decide) ?_
    refine aw_bipush (v := 60) dX8_fire_12 (by decide) ?_
    refine aw_S3i (kc' := 0) (ks' := 0) dX8_fire_14 cs_X8_54 c_outside rfl (Nat.le_of_ble_eq_true rfl) (fun x14 M14 h14 => ?_)
    obtain ⟨rfl, e14⟩ := h14
    replace e14 := e14.symm
    subst e14
    rw [q_out_in]
    refine aw_if_eq (tgt := 22) dX8_fire_17 (by decide) (fun h17 => ?_) (fun h17 => ?_)
    · replace h17 := b2i_0.mp h17
      simp at h17
      refine aw_iconst (v := 0) dX8_fire_22 (by decide) ?_
      refine aw_istore dX8_fire_23 rfl (by decide) ?_
      refine aw_iconst (v := 0) dX8_fire_25 (by decide) ?_
      refine aw_istore dX8_fire_26 rfl (by decide) ?_
      refine gl (fun s M9 => CC g M9 α nf nj nm s.2 ∧ KH Mb M9) (fun i s M9 => ∀ z6 : Option Value, AW l g ab_X0 (ab_Z g (ab_Qi (fun x M' => x = (g_fire κ nm (nI k) w).1 ∧ CC g M' α nf nj nm (g_fire κ nm (nI k) w).2 ∧ KH Mb M'))) Y_X8_fire 4 85 0 0 28 [some (.ref (α 0 0)), some (.int (nI k)), some (.int w), some (.ref (α 13 k)), some (.int (s.1)), some (.int (nI i)), z6] [] M9) (k_cfire (nI k) w) (fun _ s => cI0 nf nj nm s.2) nm (fun i s _ h => k_cfire0 h) ?_ nm 0 (0, κ) _ (Nat.zero_add _) hI ⟨hC, hK⟩ ?_ none
      · clear hC hK
        intro i s M hi hI hp kk z6
        obtain ⟨hC, hK⟩ := hp
        obtain ⟨ji, hji, eji⟩ := hI.2.2.2.1 i hi
        have kk : ∀ (M8 : ab_M) (s9 : Int32 × cS), s9 = k_cfire (nI k) w i s → CC g M8 α nf nj nm s9.2 → KH Mb M8 → ∀ z6, AW l g ab_X0 (ab_Z g (ab_Qi (fun x M' => x = (g_fire κ nm (nI k) w).1 ∧ CC g M' α nf nj nm (g_fire κ nm (nI k) w).2 ∧ KH Mb M'))) Y_X8_fire 4 85 0 0 28 [some (.ref (α 0 0)), some (.int (nI k)), some (.int w), some (.ref (α 13 k)), some (.int (s9.1)), some (.int (nI (i + 1))), z6] [] M8 := fun M8 s9 e9 hC hK => by subst e9; exact kk M8 ⟨hC, hK⟩ (k_cfire0 hI)
        refine aw_iload dX8_fire_28 rfl ?_
        refine aw_aload_n dX8_fire_30 rfl ?_
        refine aw_get dX8_fire_31 fg_X8_19_9 hC.1 rfl ?_
        obtain ⟨u34, v34, s34⟩ := szM hC
        refine aw_V0i (kc' := 0) (ks' := 0) dX8_fire_34 cs_X8_62_0 s34 (j_size s34) rfl (Nat.le_of_ble_eq_true rfl) (fun x34 M34 h34 => ?_)
        obtain ⟨rfl, e34⟩ := h34
        replace e34 := e34.symm
        subst e34
        refine aw_icmp_ge (tgt := 108) dX8_fire_37 (by decide) (fun h37 => absurd (nI_lt hi (by omega)) (Int32.not_lt.mpr h37)) (fun h37 => ?_)
        refine aw_aload_n dX8_fire_40 rfl ?_
        refine aw_get dX8_fire_41 fg_X8_19_9 hC.1 rfl ?_
        refine aw_iload dX8_fire_44 rfl ?_
        obtain ⟨u46, v46, s46⟩ := szM hC
        refine aw_V1r (kc' := 0) (ks' := 0) dX8_fire_46 cs_X8_187_0 s46 (w_getM hC hi) rfl (Nat.le_of_ble_eq_true rfl) (fun x46 M46 h46 => ?_)
        obtain ⟨rfl, e46⟩ := h46
        replace e46 := e46.symm
        subst e46
        refine aw_castMan dX8_fire_49 tw_449 (cMan hC hi) ?_
        refine aw_astore dX8_fire_52 rfl (by decide) ?_
        refine aw_aload dX8_fire_54 rfl ?_
        refine aw_get dX8_fire_56 (fM_X8_116 _) (gM hC hi) rfl ?_
        refine aw_iconst (v := 1) dX8_fire_59 (by decide) ?_
        refine aw_icmp_ne (tgt := 102) dX8_fire_60 (by decide) (fun h60 => ?_) (fun h60 => ?_)
        · refine aw_iinc dX8_fire_102 rfl (ii_1 i) rfl (by decide) ?_
          refine aw_goto (tgt := 28) dX8_fire_105 (by decide) ?_
          first | exact kk _ s (by rw [k_cfire, if_neg (fun q => h60 q.1.1)]) hC hK _ | exact kk _ s (by rw [k_cfire, if_neg (fun q => h69 (by have e9 := q.1.2; rw [eji, nI_eq (by omega) (by omega)] at e9; rw [e9]))]) hC hK _ | exact kk _ s (by rw [k_cfire, if_neg (fun q => q.2 h78)]) hC hK _ | exact kk _ (s.1 + s.2.1.2.1 21 i, g_down (cp s.2 21 i 0) i) (by rw [k_cfire, if_pos ⟨⟨h60, by rw [eji, j_inj hC hk hji h69]⟩, h78⟩]) hC hK _
        · refine aw_aload dX8_fire_63 rfl ?_
          refine cw_gM3 dX8_fire_65 (fM_X8_126 _) hC hi eji (by omega) ?_
          refine aw_aload_n dX8_fire_68 rfl ?_
          refine aw_acmp_ne (tgt := 102) dX8_fire_69 (by decide) (fun h69 => ?_) (fun h69 => ?_)
          · refine aw_iinc dX8_fire_102 rfl (ii_1 i) rfl (by decide) ?_
            refine aw_goto (tgt := 28) dX8_fire_105 (by decide) ?_
            first | exact kk _ s (by rw [k_cfire, if_neg (fun q => h60 q.1.1)]) hC hK _ | exact kk _ s (by rw [k_cfire, if_neg (fun q => h69 (by have e9 := q.1.2; rw [eji, nI_eq (by omega) (by omega)] at e9; rw [e9]))]) hC hK _ | exact kk _ s (by rw [k_cfire, if_neg (fun q => q.2 h78)]) hC hK _ | exact kk _ (s.1 + s.2.1.2.1 21 i, g_down (cp s.2 21 i 0) i) (by rw [k_cfire, if_pos ⟨⟨h60, by rw [eji, j_inj hC hk hji h69]⟩, h78⟩]) hC hK _
          · refine aw_aload dX8_fire_72 rfl ?_
            refine aw_get dX8_fire_74 (fM_X8_152 _) (gM hC hi) rfl ?_
            refine aw_iload_n dX8_fire_77 rfl ?_
            refine aw_icmp_gt (tgt := 102) dX8_fire_78 (by decide) (fun h78 => ?_) (fun h78 => ?_)
            · refine aw_iinc dX8_fire_102 rfl (ii_1 i) rfl (by decide) ?_
              refine aw_goto (tgt := 28) dX8_fire_105 (by decide) ?_
              first | exact kk _ s (by rw [k_cfire, if_neg (fun q => h60 q.1.1)]) hC hK _ | exact kk _ s (by rw [k_cfire, if_neg (fun q => h69 (by have e9 := q.1.2; rw [eji, nI_eq (by omega) (by omega)] at e9; rw [e9]))]) hC hK _ | exact kk _ s (by rw [k_cfire, if_neg (fun q => q.2 h78)]) hC hK _ | exact kk _ (s.1 + s.2.1.2.1 21 i, g_down (cp s.2 21 i 0) i) (by rw [k_cfire, if_pos ⟨⟨h60, by rw [eji, j_inj hC hk hji h69]⟩, h78⟩]) hC hK _
            · refine aw_iload dX8_fire_81 rfl ?_
              refine aw_aload dX8_fire_83 rfl ?_
              refine aw_get dX8_fire_85 (fM_X8_155 _) (gM hC hi) rfl ?_
              refine aw_iadd dX8_fire_88 ?_
              refine aw_istore dX8_fire_89 rfl (by decide) ?_
              refine aw_aload dX8_fire_91 rfl ?_
              refine aw_iconst (v := 0) dX8_fire_93 (by decide) ?_
              refine cw_pM7 dX8_fire_94 (pM_X8_155 _) hC hi hK (fun M hC hK => ?_)
              refine aw_aload dX8_fire_97 rfl ?_
              refine aw_V0v (kc' := 0) (ks' := 0) dX8_fire_99 (csM_X8_191 _) (gM hC hi) (c_goDown hC (show cI0 nf nj nm (cp s.2 21 i 0) from hI) hi) rfl (Nat.le_of_ble_eq_true rfl) (fun M99 h99 => ?_)
              obtain ⟨hC, hK9⟩ := h99
              replace hK := hK.tr hK9
              refine aw_iinc dX8_fire_102 rfl (ii_1 i) rfl (by decide) ?_
              refine aw_goto (tgt := 28) dX8_fire_105 (by decide) ?_
              first | exact kk _ s (by rw [k_cfire, if_neg (fun q => h60 q.1.1)]) hC hK _ | exact kk _ s (by rw [k_cfire, if_neg (fun q => h69 (by have e9 := q.1.2; rw [eji, nI_eq (by omega) (by omega)] at e9; rw [e9]))]) hC hK _ | exact kk _ s (by rw [k_cfire, if_neg (fun q => q.2 h78)]) hC hK _ | exact kk _ (s.1 + s.2.1.2.1 21 i, g_down (cp s.2 21 i 0) i) (by rw [k_cfire, if_pos ⟨⟨h60, by rw [eji, j_inj hC hk hji h69]⟩, h78⟩]) hC hK _
      · clear hC hK
        intro M hp hI z6
        obtain ⟨hC, hK⟩ := hp
        generalize hs : lp (k_cfire (nI k) w) 0 nm (0, κ) = s at *
        refine aw_iload dX8_fire_28 rfl ?_
        refine aw_aload_n dX8_fire_30 rfl ?_
        refine aw_get dX8_fire_31 fg_X8_19_9 hC.1 rfl ?_
        obtain ⟨u34, v34, s34⟩ := szM hC
        refine aw_V0i (kc' := 0) (ks' := 0) dX8_fire_34 cs_X8_62_0 s34 (j_size s34) rfl (Nat.le_of_ble_eq_true rfl) (fun x34 M34 h34 => ?_)
        obtain ⟨rfl, e34⟩ := h34
        replace e34 := e34.symm
        subst e34
        refine aw_icmp_ge (tgt := 108) dX8_fire_37 (by decide) (fun h37 => ?_) (fun h37 => absurd (Int32.le_refl _) h37)
        refine aw_aload_n dX8_fire_108 rfl ?_
        refine aw_get dX8_fire_109 fg_X8_43_9 hC.1 rfl ?_
        refine aw_iconst (v := 5) dX8_fire_112 (by decide) ?_
        refine aw_dup2 dX8_fire_113 rfl rfl ?_
        refine aw_lald dX8_fire_114 hC.2.2.2.2.1 (by first | assumption | (unfold vp_in; decide)) ?_
        refine aw_iload dX8_fire_115 rfl ?_
        refine aw_i2l dX8_fire_117 ?_
        refine aw_ladd dX8_fire_118 ?_
        refine cw_s_sums dX8_fire_119 (by first | assumption | (unfold vp_in; decide)) hC hK (fun M hC hK => ?_)
        refine aw_iload dX8_fire_120 rfl ?_
        exact aw_iret dX8_fire_122 rfl ⟨by rw [g_fire, q2, h17, q_cfire, hs]; rfl, by rw [g_fire, q2, h17, q_cfire, hs]; exact hC, hK⟩
    · replace h17 := b2i_n.mp h17
      simp at h17
      refine aw_iconst (v := -1) dX8_fire_20 (by decide) ?_
      exact aw_iret dX8_fire_21 rfl (by refine ⟨?_, ?_, hK⟩ <;> first | (simp [g_fire, q2, *]; done) | (simp [g_fire, q2, *]; exact hC))
def g_fact (κ : cS) (i w : Int32) : Int32 := q_or (κ.1.2.1 36) 600 (q_fmod (κ.1.1 42 - 1 - i) 100 * 6 + w) (-4)
def k_cfoul (κ : cS) (f t : Int32) (i : Nat) (s : Int32) : Int32 := if g_fact κ (nI i) 4 = f ∧ ¬ g_fact κ (nI i) 5 < t then s ||| (1 <<< (g_fact κ (nI i) 1 &&& 31)) else s
set_option maxRecDepth 100000 in
set_option maxHeartbeats 4000000 in
theorem c_fact {l : Launch} {g : ab_G} {M : ab_M} {α : Nat → Nat → Nat} {nf nj nm : Nat} {κ : cS} (hC : CC g M α nf nj nm κ) {i w : Int32} : AM l g Y_X6_fact 1 22 0 0 [.ref (α 5 0), .int i, .int w] M (ab_Qi (fun x M' => x = g_fact κ i w ∧ M' = M)) := by
  refine AM.of [some (.ref (α 5 0)), some (.int i), some (.int w), none] (by decide +kernel) (Nat.le_of_ble_eq_true rfl) rfl ?_
  refine aw_aload_n dX6_fact_0 rfl ?_
  refine aw_get dX6_fact_1 fg_X6_15_7 hC.2.2.1.1 rfl ?_
  refine aw_iconst (v := 1) dX6_fact_4 (by decide) ?_
  refine aw_isub dX6_fact_5 ?_
  refine aw_iload_n dX6_fact_6 rfl ?_
  refine aw_isub dX6_fact_7 ?_
  refine aw_bipush (v := 100) dX6_fact_8 (by decide) ?_
  refine aw_S2i (kc' := 0) (ks' := 0) dX6_fact_10 cs_X6_46 (j_fmod (by decide)) rfl (Nat.le_of_ble_eq_true rfl) (fun x10 M10 h10 => ?_)
  obtain ⟨rfl, e10⟩ := h10
  replace e10 := e10.symm
  subst e10
  refine aw_bipush (v := 6) dX6_fact_13 (by decide) ?_
  refine aw_imul dX6_fact_15 ?_
  refine aw_iload_n dX6_fact_16 rfl ?_
  refine aw_iadd dX6_fact_17 ?_
  refine aw_istore_n dX6_fact_18 rfl (by decide) ?_
  refine aw_iload_n dX6_fact_19 rfl ?_
  refine aw_if_lt (tgt := 32) dX6_fact_20 (by decide) (fun h20 => ?_) (fun h20 => ?_)
  · refine aw_bipush (v := -4) dX6_fact_32 (by decide) ?_
    refine aw_goto (tgt := 43) dX6_fact_34 (by decide) ?_
    exact aw_iret dX6_fact_43 rfl ⟨by first | (rw [g_fact, q_or, if_neg (fun h => h.1 h20)]; done) | (rw [g_fact, q_or, if_neg (fun h => h29 h.2)]; done) | (rw [g_fact, q_or, if_pos ⟨h20, h29⟩]; done), rfl⟩
  · refine aw_iload_n dX6_fact_23 rfl ?_
    refine aw_aload_n dX6_fact_24 rfl ?_
    refine aw_get dX6_fact_25 fg_X6_11_7 hC.2.2.1.1 rfl ?_
    refine aw_alen dX6_fact_28 hC.2.2.1.2 0 rfl rfl ?_
    refine aw_icmp_lt (tgt := 37) dX6_fact_29 (by decide) (fun h29 => ?_) (fun h29 => ?_)
    · refine aw_aload_n dX6_fact_37 rfl ?_
      refine aw_get dX6_fact_38 fg_X6_11_7 hC.2.2.1.1 rfl ?_
      refine aw_iload_n dX6_fact_41 rfl ?_
      refine aw_iald dX6_fact_42 hC.2.2.1.2 (or_in (by decide) h20 h29) ?_
      exact aw_iret dX6_fact_43 rfl ⟨by first | (rw [g_fact, q_or, if_neg (fun h => h.1 h20)]; done) | (rw [g_fact, q_or, if_neg (fun h => h29 h.2)]; done) | (rw [g_fact, q_or, if_pos ⟨h20, h29⟩]; done), rfl⟩
    · refine aw_bipush (v := -4) dX6_fact_32 (by decide) ?_
      refine aw_goto (tgt := 43) dX6_fact_34 (by decide) ?_
      exact aw_iret dX6_fact_43 rfl ⟨by first | (rw [g_fact, q_or, if_neg (fun h => h.1 h20)]; done) | (rw [g_fact, q_or, if_neg (fun h => h29 h.2)]; done) | (rw [g_fact, q_or, if_pos ⟨h20, h29⟩]; done), rfl⟩
set_option maxRecDepth 100000 in
set_option maxHeartbeats 4000000 in
theorem c_jarsFouledBy {l : Launch} {g : ab_G} {M : ab_M} {α : Nat → Nat → Nat} {nf nj nm : Nat} {κ : cS} (hC : CC g M α nf nj nm κ) {f t : Int32} {n : Nat} (hn : κ.1.1 35 = nI n) (hn1 : n ≤ 100) : AM l g Y_X6_jarsFouledBy 2 45 0 0 [.ref (α 5 0), .int f, .int t] M (ab_Qi (fun x M' => x = lp (k_cfoul κ f t) 0 n 0 ∧ M' = M)) := by
  refine AM.of [some (.ref (α 5 0)), some (.int f), some (.int t), none, none] (by decide +kernel) (Nat.le_of_ble_eq_true rfl) rfl ?_
  refine aw_iconst (v := 0) dX6_jarsFouledBy_0 (by decide) ?_
  refine aw_istore_n dX6_jarsFouledBy_1 rfl (by decide) ?_
  refine aw_iconst (v := 0) dX6_jarsFouledBy_2 (by decide) ?_
  refine aw_istore dX6_jarsFouledBy_3 rfl (by decide) ?_
  refine gl (fun _ M9 => M9 = M) (fun i s M9 => AW l g ab_X0 (ab_Z g (ab_Qi (fun x M' => x = lp (k_cfoul κ f t) 0 n 0 ∧ M' = M))) Y_X6_jarsFouledBy 2 45 0 0 5 [some (.ref (α 5 0)), some (.int f), some (.int t), some (.int (s)), some (.int (nI i))] [] M9) (k_cfoul κ f t) (fun _ _ => True) n (fun _ _ _ _ => trivial) ?_ n 0 0 M (Nat.zero_add _) trivial rfl ?_
  · intro i s M9 hi _ hp kk
    replace hp := hp.symm
    subst hp
    have kk : ∀ s9 : Int32, s9 = k_cfoul κ f t i s → AW l g ab_X0 (ab_Z g (ab_Qi (fun x M' => x = lp (k_cfoul κ f t) 0 n 0 ∧ M' = M))) Y_X6_jarsFouledBy 2 45 0 0 5 [some (.ref (α 5 0)), some (.int f), some (.int t), some (.int (s9)), some (.int (nI (i + 1)))] [] M := fun s9 e9 => by rw [e9]; exact kk M rfl trivial
    refine aw_iload dX6_jarsFouledBy_5 rfl ?_
    refine aw_aload_n dX6_jarsFouledBy_7 rfl ?_
    refine aw_get dX6_jarsFouledBy_8 fg_X6_19_7 hC.2.2.1.1 rfl ?_
    refine aw_icmp_ge (tgt := 54) dX6_jarsFouledBy_11 (by decide) (fun h11 => absurd (show κ.1.1 35 ≤ nI i from h11) (by rw [hn]; exact nI_ge hi (by omega))) (fun h11 => ?_)
    refine aw_aload_n dX6_jarsFouledBy_14 rfl ?_
    refine aw_iload dX6_jarsFouledBy_15 rfl ?_
    refine aw_iconst (v := 4) dX6_jarsFouledBy_17 (by decide) ?_
    refine aw_V2i (kc' := 0) (ks' := 0) dX6_jarsFouledBy_18 cs_X6_49_7 hC.2.2.1.1 (c_fact hC) rfl (Nat.le_of_ble_eq_true rfl) (fun x18 M18 h18 => ?_)
    obtain ⟨rfl, e18⟩ := h18
    replace e18 := e18.symm
    subst e18
    refine aw_iload_n dX6_jarsFouledBy_21 rfl ?_
    refine aw_icmp_ne (tgt := 48) dX6_jarsFouledBy_22 (by decide) (fun h22 => ?_) (fun h22 => ?_)
    · have e9 : s = k_cfoul κ f t i s := by rw [k_cfoul, if_neg (fun q => h22 q.1)]
      refine aw_iinc dX6_jarsFouledBy_48 rfl (ii_1 i) rfl (by decide) ?_
      refine aw_goto (tgt := 5) dX6_jarsFouledBy_51 (by decide) ?_
      exact kk _ e9
    · refine aw_aload_n dX6_jarsFouledBy_25 rfl ?_
      refine aw_iload dX6_jarsFouledBy_26 rfl ?_
      refine aw_iconst (v := 5) dX6_jarsFouledBy_28 (by decide) ?_
      refine aw_V2i (kc' := 0) (ks' := 0) dX6_jarsFouledBy_29 cs_X6_49_7 hC.2.2.1.1 (c_fact hC) rfl (Nat.le_of_ble_eq_true rfl) (fun x29 M29 h29 => ?_)
      obtain ⟨rfl, e29⟩ := h29
      replace e29 := e29.symm
      subst e29
      refine aw_iload_n dX6_jarsFouledBy_32 rfl ?_
      refine aw_icmp_lt (tgt := 48) dX6_jarsFouledBy_33 (by decide) (fun h33 => ?_) (fun h33 => ?_)
      · have e9 : s = k_cfoul κ f t i s := by rw [k_cfoul, if_neg (fun q => q.2 h33)]
        refine aw_iinc dX6_jarsFouledBy_48 rfl (ii_1 i) rfl (by decide) ?_
        refine aw_goto (tgt := 5) dX6_jarsFouledBy_51 (by decide) ?_
        exact kk _ e9
      · have e9 : s ||| (1 <<< (g_fact κ (nI i) 1 &&& 31)) = k_cfoul κ f t i s := by rw [k_cfoul, if_pos ⟨h22, h33⟩]
        refine aw_iload_n dX6_jarsFouledBy_36 rfl ?_
        refine aw_iconst (v := 1) dX6_jarsFouledBy_37 (by decide) ?_
        refine aw_aload_n dX6_jarsFouledBy_38 rfl ?_
        refine aw_iload dX6_jarsFouledBy_39 rfl ?_
        refine aw_iconst (v := 1) dX6_jarsFouledBy_41 (by decide) ?_
        refine aw_V2i (kc' := 0) (ks' := 0) dX6_jarsFouledBy_42 cs_X6_49_7 hC.2.2.1.1 (c_fact hC) rfl (Nat.le_of_ble_eq_true rfl) (fun x42 M42 h42 => ?_)
        obtain ⟨rfl, e42⟩ := h42
        replace e42 := e42.symm
        subst e42
        refine aw_ishl dX6_jarsFouledBy_45 ?_
        refine aw_ior dX6_jarsFouledBy_46 ?_
        refine aw_istore_n dX6_jarsFouledBy_47 rfl (by decide) ?_
        refine aw_iinc dX6_jarsFouledBy_48 rfl (ii_1 i) rfl (by decide) ?_
        refine aw_goto (tgt := 5) dX6_jarsFouledBy_51 (by decide) ?_
        exact kk _ e9
  · intro M9 hp _
    replace hp := hp.symm
    subst hp
    refine aw_iload dX6_jarsFouledBy_5 rfl ?_
    refine aw_aload_n dX6_jarsFouledBy_7 rfl ?_
    refine aw_get dX6_jarsFouledBy_8 fg_X6_19_7 hC.2.2.1.1 rfl ?_
    refine aw_icmp_ge (tgt := 54) dX6_jarsFouledBy_11 (by decide) (fun h11 => ?_) (fun h11 => absurd (show κ.1.1 35 ≤ nI n by rw [hn]; exact Int32.le_refl _) h11)
    refine aw_iload_n dX6_jarsFouledBy_54 rfl ?_
    exact aw_iret dX6_jarsFouledBy_55 rfl ⟨rfl, rfl⟩
def g_poured (κ : cS) (i w : Int32) : Int32 := if (!decide (i < 0) && q_in w 0 5) = true then (if i < κ.1.1 35 then g_fact κ i w else -4) else -1
def g_foul (κ : cS) (f t : Int32) : Int32 := if (q_isF κ.1 f && decide (0 ≤ t)) = true then lp (k_cfoul κ f t) 0 (κ.1.1 35).toNatClampNeg 0 else -1
set_option maxRecDepth 100000 in
set_option maxHeartbeats 4000000 in
theorem c_poured {l : Launch} {g : ab_G} {M : ab_M} {α : Nat → Nat → Nat} {nf nj nm : Nat} {κ : cS} (hC : CC g M α nf nj nm κ) {i w : Int32} : AM l g Y_X8_poured 2 45 0 0 [.ref (α 0 0), .int i, .int w] M (ab_Qi (fun x M' => x = g_poured κ i w ∧ M' = M)) := by
  refine AM.of [some (.ref (α 0 0)), some (.int i), some (.int w)] (by decide +kernel) (Nat.le_of_ble_eq_true rfl) rfl ?_
  refine aw_iload_n dX8_poured_0 rfl ?_
  refine aw_if_lt (tgt := 13) dX8_poured_1 (by decide) (fun h1 => ?_) (fun h1 => ?_)
  · refine aw_iconst (v := -1) dX8_poured_13 (by decide) ?_
    exact aw_iret dX8_poured_14 rfl ⟨by simp [g_poured, *], rfl⟩
  · refine aw_iload_n dX8_poured_4 rfl ?_
    refine aw_iconst (v := 0) dX8_poured_5 (by decide) ?_
    refine aw_iconst (v := 5) dX8_poured_6 (by decide) ?_
    refine aw_S3i (kc' := 0) (ks' := 0) dX8_poured_7 cs_X8_54 c_outside rfl (Nat.le_of_ble_eq_true rfl) (fun x7 M7 h7 => ?_)
    obtain ⟨rfl, e7⟩ := h7
    replace e7 := e7.symm
    subst e7
    rw [q_out_in]
    refine aw_if_eq (tgt := 15) dX8_poured_10 (by decide) (fun h10 => ?_) (fun h10 => ?_)
    · replace h10 := b2i_0.mp h10
      simp at h10
      refine aw_iload_n dX8_poured_15 rfl ?_
      refine aw_aload_n dX8_poured_16 rfl ?_
      refine aw_get dX8_poured_17 fg_X8_32_9 hC.1 rfl ?_
      refine aw_get dX8_poured_20 fg_X8_194_7 hC.2.2.1.1 rfl ?_
      refine aw_icmp_lt (tgt := 29) dX8_poured_23 (by decide) (fun h23 => ?_) (fun h23 => ?_)
      · refine aw_aload_n dX8_poured_29 rfl ?_
        refine aw_get dX8_poured_30 fg_X8_32_9 hC.1 rfl ?_
        refine aw_iload_n dX8_poured_33 rfl ?_
        refine aw_iload_n dX8_poured_34 rfl ?_
        refine aw_V2i (kc' := 0) (ks' := 0) dX8_poured_35 cs_X8_197_7 hC.2.2.1.1 (c_fact hC) rfl (Nat.le_of_ble_eq_true rfl) (fun x35 M35 h35 => ?_)
        obtain ⟨rfl, e35⟩ := h35
        replace e35 := e35.symm
        subst e35
        exact aw_iret dX8_poured_38 rfl ⟨by simp [g_poured, *], rfl⟩
      · refine aw_bipush (v := -4) dX8_poured_26 (by decide) ?_
        exact aw_iret dX8_poured_28 rfl ⟨by simp [g_poured, *], rfl⟩
    · replace h10 := b2i_n.mp h10
      simp at h10
      refine aw_iconst (v := -1) dX8_poured_13 (by decide) ?_
      exact aw_iret dX8_poured_14 rfl ⟨by simp [g_poured, *], rfl⟩
set_option maxRecDepth 100000 in
set_option maxHeartbeats 4000000 in
theorem c_foul {l : Launch} {g : ab_G} {M : ab_M} {α : Nat → Nat → Nat} {nf nj nm : Nat} {κ : cS} (hC : CC g M α nf nj nm κ) (hI : cI nf nj nm κ) {f t : Int32} : AM l g Y_X8_foul 4 85 0 0 [.ref (α 0 0), .int f, .int t] M (ab_Qi (fun x M' => x = g_foul κ f t ∧ M' = M)) := by
  refine AM.of [some (.ref (α 0 0)), some (.int f), some (.int t)] (by decide +kernel) (Nat.le_of_ble_eq_true rfl) rfl ?_
  have hb := hI.1
  obtain ⟨n, hn1, hn⟩ := hI.2.2.2.2.2.2.1
  replace hI := hI.z
  have hcl := nI_cl (n := n) (by omega)
  refine aw_aload_n dX8_foul_0 rfl ?_
  refine aw_iload_n dX8_foul_1 rfl ?_
  refine aw_V1q (kc' := 0) (ks' := 0) dX8_foul_2 cs_X8_87_9 hC.1 (w_fountainAt hC) rfl (Nat.le_of_ble_eq_true rfl) (fun x2 M2 h2 => ?_)
  obtain ⟨rfl, e2⟩ := h2
  replace e2 := e2.symm
  subst e2
  rcases at_F hI (α 10) f with ⟨e2, q2⟩ | ⟨k, hk, rfl, e2, q2⟩
  · rw [e2]
    refine aw_ifnullN (tgt := 12) dX8_foul_5 (by decide) ?_
    refine aw_iconst (v := -1) dX8_foul_12 (by decide) ?_
    exact aw_iret dX8_foul_13 rfl ⟨by first | (simp [g_foul, q2]; done) | (rw [g_foul, q2, hn, hcl, if_pos (by simpa using h9)]; done) | (rw [g_foul, q2, if_neg (by simpa using h9)]; done), rfl⟩
  · rw [e2]
    have ck := nI_cl (n := k) (by omega)
    refine aw_ifnull dX8_foul_5 ?_
    refine aw_iload_n dX8_foul_8 rfl ?_
    refine aw_if_ge (tgt := 14) dX8_foul_9 (by decide) (fun h9 => ?_) (fun h9 => ?_)
    · refine aw_aload_n dX8_foul_14 rfl ?_
      refine aw_get dX8_foul_15 fg_X8_32_9 hC.1 rfl ?_
      refine aw_iload_n dX8_foul_18 rfl ?_
      refine aw_iload_n dX8_foul_19 rfl ?_
      refine aw_V2i (kc' := 0) (ks' := 0) dX8_foul_20 cs_X8_201_7 hC.2.2.1.1 (c_jarsFouledBy hC hn hn1) rfl (Nat.le_of_ble_eq_true rfl) (fun x20 M20 h20 => ?_)
      obtain ⟨rfl, e20⟩ := h20
      replace e20 := e20.symm
      subst e20
      exact aw_iret dX8_foul_23 rfl ⟨by first | (simp [g_foul, q2]; done) | (rw [g_foul, q2, hn, hcl, if_pos (by simpa using h9)]; done) | (rw [g_foul, q2, if_neg (by simpa using h9)]; done), rfl⟩
    · refine aw_iconst (v := -1) dX8_foul_12 (by decide) ?_
      exact aw_iret dX8_foul_13 rfl ⟨by first | (simp [g_foul, q2]; done) | (rw [g_foul, q2, hn, hcl, if_pos (by simpa using h9)]; done) | (rw [g_foul, q2, if_neg (by simpa using h9)]; done), rfl⟩
