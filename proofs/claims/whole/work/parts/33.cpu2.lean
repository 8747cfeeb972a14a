/-! ===== the class's public methods, 2 ===== -/
theorem szF {g : ab_G} {M : ab_M} {α : Nat → Nat → Nat} {nf nj nm : Nat} {κ : cS} (hC : CC g M α nf nj nm κ) : ∃ (v0 v1 : Value), M (α 1 0) = some ((1, 0), .inr (0, [v0, v1, .int (nI nf)])) := by
  obtain ⟨v0, v1, h⟩ := (hC.2.2.2.2.2.2.2.2.1.1).sz
  rw [List.length_map, List.length_range] at h
  exact ⟨v0, v1, h⟩
theorem w_getF {l : Launch} {g : ab_G} {M : ab_M} {α : Nat → Nat → Nat} {nf nj nm : Nat} {κ : cS} (hC : CC g M α nf nj nm κ) {i : Nat} (hi : i < nf) : AM l g Y_Jx4a65c_get_915e3 2 43 0 0 [.ref (α 1 0), .int (nI i)] M (ab_Qr (fun y M' => y = α 10 i ∧ M' = M)) := by
  have hk : ((List.range nf).map (α 10))[i]? = some (α 10 i) := by rw [List.getElem?_map, List.getElem?_range hi]; rfl
  exact j_get ((hC.2.2.2.2.2.2.2.2.1.1).lg hk) hk
theorem szJ {g : ab_G} {M : ab_M} {α : Nat → Nat → Nat} {nf nj nm : Nat} {κ : cS} (hC : CC g M α nf nj nm κ) : ∃ (v0 v1 : Value), M (α 1 1) = some ((1, 1), .inr (0, [v0, v1, .int (nI nj)])) := by
  obtain ⟨v0, v1, h⟩ := (hC.2.2.2.2.2.2.2.2.1.2.1).sz
  rw [List.length_map, List.length_range] at h
  exact ⟨v0, v1, h⟩
theorem w_getJ {l : Launch} {g : ab_G} {M : ab_M} {α : Nat → Nat → Nat} {nf nj nm : Nat} {κ : cS} (hC : CC g M α nf nj nm κ) {i : Nat} (hi : i < nj) : AM l g Y_Jx4a65c_get_915e3 2 43 0 0 [.ref (α 1 1), .int (nI i)] M (ab_Qr (fun y M' => y = α 13 i ∧ M' = M)) := by
  have hk : ((List.range nj).map (α 13))[i]? = some (α 13 i) := by rw [List.getElem?_map, List.getElem?_range hi]; rfl
  exact j_get ((hC.2.2.2.2.2.2.2.2.1.2.1).lg hk) hk
theorem szM {g : ab_G} {M : ab_M} {α : Nat → Nat → Nat} {nf nj nm : Nat} {κ : cS} (hC : CC g M α nf nj nm κ) : ∃ (v0 v1 : Value), M (α 1 2) = some ((1, 2), .inr (0, [v0, v1, .int (nI nm)])) := by
  obtain ⟨v0, v1, h⟩ := (hC.2.2.2.2.2.2.2.2.1.2.2).sz
  rw [List.length_map, List.length_range] at h
  exact ⟨v0, v1, h⟩
theorem w_getM {l : Launch} {g : ab_G} {M : ab_M} {α : Nat → Nat → Nat} {nf nj nm : Nat} {κ : cS} (hC : CC g M α nf nj nm κ) {i : Nat} (hi : i < nm) : AM l g Y_Jx4a65c_get_915e3 2 43 0 0 [.ref (α 1 2), .int (nI i)] M (ab_Qr (fun y M' => y = α 15 i ∧ M' = M)) := by
  have hk : ((List.range nm).map (α 15))[i]? = some (α 15 i) := by rw [List.getElem?_map, List.getElem?_range hi]; rfl
  exact j_get ((hC.2.2.2.2.2.2.2.2.1.2.2).lg hk) hk
theorem cput_M12 {g : ab_G} {M : ab_M} {α : Nat → Nat → Nat} {nf nj nm : Nat} {κ : cS} {m : Nat} (hC : CC g M α nf nj nm κ) (hm : m < nm) (v : Int32) : CC g (ab_set M (α 15 m) (15, m) (mC (κ.1.2.1 13 m).toNatClampNeg (nI m) (κ.1.2.1 14 m) (α 10 (κ.1.2.1 15 m).toNatClampNeg) (α 13 (κ.1.2.1 16 m).toNatClampNeg) (κ.1.2.1 17 m) (κ.1.2.1 19 m) (κ.1.2.1 20 m) (κ.1.2.1 21 m) (κ.1.2.1 22 m) (κ.1.2.1 41 m) (κ.1.2.1 24 m) (κ.1.2.1 25 m) (v))) α nf nj nm (cp κ 18 m v) := by
  obtain ⟨hW, hA, hP, hG, hU, hF, hJ, hN, hL, hQ⟩ := hC
  have hK : KT (fun t => t = (15, m)) M (ab_set M (α 15 m) (15, m) (mC (κ.1.2.1 13 m).toNatClampNeg (nI m) (κ.1.2.1 14 m) (α 10 (κ.1.2.1 15 m).toNatClampNeg) (α 13 (κ.1.2.1 16 m).toNatClampNeg) (κ.1.2.1 17 m) (κ.1.2.1 19 m) (κ.1.2.1 20 m) (κ.1.2.1 21 m) (κ.1.2.1 22 m) (κ.1.2.1 41 m) (κ.1.2.1 24 m) (κ.1.2.1 25 m) (v))) := KT.put KT.rf (hN m hm) rfl
  refine ⟨hW.kp hK (fun k h => by cases h), hA.kp hK (fun k h => by cases h) (fun k h => by cases h), hP.kp hK (fun k h => by cases h) (fun k h => by cases h), hG.kp hK (fun k h => by cases h) (fun k h => by cases h), hU.kp hK (fun k h => by cases h), hF.kp hK (fun k h => by cases h), hJ.kp hK (fun k h => by cases h) (fun k h => by cases h), ?_, hL.kp hK (fun k h => by cases h) (fun k h => by cases h), hQ.kp hK (fun k h => by cases h) (fun k h => by cases h)⟩
  intro i hi
  by_cases e : i = m
  · subst e
    exact ab_set_self.trans (congrArg (fun x => some ((15, i), mC (κ.1.2.1 13 i).toNatClampNeg (nI i) (κ.1.2.1 14 i) (α 10 (κ.1.2.1 15 i).toNatClampNeg) (α 13 (κ.1.2.1 16 i).toNatClampNeg) (κ.1.2.1 17 i) (κ.1.2.1 19 i) (κ.1.2.1 20 i) (κ.1.2.1 21 i) (κ.1.2.1 22 i) (κ.1.2.1 41 i) (κ.1.2.1 24 i) (κ.1.2.1 25 i) (x))) (show v = upd (κ.1.2.1 18) i v i by simp [upd]))
  · have hu : upd (κ.1.2.1 18) m v i = κ.1.2.1 18 i := by simp [upd, e]
    refine (ab_set_tag (hN m hm) (hN i hi) (fun q => e (congrArg Prod.snd q))).trans ?_
    exact congrArg (fun x => some ((15, i), mC (κ.1.2.1 13 i).toNatClampNeg (nI i) (κ.1.2.1 14 i) (α 10 (κ.1.2.1 15 i).toNatClampNeg) (α 13 (κ.1.2.1 16 i).toNatClampNeg) (κ.1.2.1 17 i) (κ.1.2.1 19 i) (κ.1.2.1 20 i) (κ.1.2.1 21 i) (κ.1.2.1 22 i) (κ.1.2.1 41 i) (κ.1.2.1 24 i) (κ.1.2.1 25 i) (x))) hu.symm
set_option maxRecDepth 100000 in
set_option maxHeartbeats 4000000 in
theorem c_pace {l : Launch} {g : ab_G} {M : ab_M} {α : Nat → Nat → Nat} {nf nj nm : Nat} {κ : cS} (hC : CC g M α nf nj nm κ) (hI : cI0 nf nj nm κ) {m r : Int32} : AM l g Y_X8_pace 4 85 0 0 [.ref (α 0 0), .int m, .int r] M (ab_Qi (fun x M' => x = (f_pace κ.1 m r).1 ∧ CC g M' α nf nj nm ((f_pace κ.1 m r).2, κ.2) ∧ KH M M')) := by
  refine AM.of [some (.ref (α 0 0)), some (.int m), some (.int r), none, none, none] (by decide +kernel) (Nat.le_of_ble_eq_true rfl) rfl ?_
  have hb := hI.1
  have hK : KH M M := KT.rf
  refine aw_aload_n dX8_pace_0 rfl ?_
  refine aw_iload_n dX8_pace_1 rfl ?_
  refine aw_V1q (kc' := 0) (ks' := 0) dX8_pace_2 cs_X8_104_9 hC.1 (w_manAt hC) rfl (Nat.le_of_ble_eq_true rfl) (fun x2 M2 h2 => ?_)
  obtain ⟨rfl, e2⟩ := h2
  replace e2 := e2.symm
  subst e2
  rcases at_M hI (α 15) m with ⟨e2, q2⟩ | ⟨k, hk, rfl, e2, q2⟩
  · rw [e2]
    refine aw_astore_nN dX8_pace_5 rfl (by decide) ?_
    refine aw_aload_nN dX8_pace_6 rfl ?_
    refine aw_ifnullN (tgt := 19) dX8_pace_7 (by decide) ?_
    refine aw_iconst (v := -1) dX8_pace_19 (by decide) ?_
    exact aw_iret dX8_pace_20 rfl (by refine ⟨?_, ?_, hK⟩ <;> first | (simp [f_pace, q2, *]; done) | (simp [f_pace, q2, *, rp, rpz]; exact hC))
  · rw [e2]
    have ck := nI_cl (n := k) (by omega)
    refine aw_astore_n dX8_pace_5 rfl (by decide) ?_
    refine aw_aload_n dX8_pace_6 rfl ?_
    refine aw_ifnull dX8_pace_7 ?_
    refine aw_iload_n dX8_pace_10 rfl ?_
    refine aw_iconst (v := 1) dX8_pace_11 (by decide) ?_
    refine aw_iconst (v := 5) dX8_pace_12 (by decide) ?_
    refine aw_S3i (kc' := 0) (ks' := 0) dX8_pace_13 cs_X8_54 c_outside rfl (Nat.le_of_ble_eq_true rfl) (fun x13 M13 h13 => ?_)
    obtain ⟨rfl, e13⟩ := h13
    replace e13 := e13.symm
    subst e13
    rw [q_out_in]
    refine aw_if_eq (tgt := 21) dX8_pace_16 (by decide) (fun h16 => ?_) (fun h16 => ?_)
    · replace h16 := b2i_0.mp h16
      simp at h16
      refine aw_aload_n dX8_pace_21 rfl ?_
      obtain ⟨fi, hfi, efi⟩ := hI.2.2.1 k hk
      obtain ⟨kd, hkd, ekd⟩ := hI.2.2.2.2 k hk
      have h := gMk hC hk ekd hkd efi (by omega)
      match kd, hkd with
      | 0, _ =>
        refine aw_instNo dX8_pace_22 tw_364 (C := RX5) (by decide) h rfl ?_
        refine aw_if_eq (tgt := 50) dX8_pace_25 (by decide) (fun h25 => ?_) (fun h25 => absurd rfl h25)
        refine aw_bipush (v := -13) dX8_pace_50 (by decide) ?_
        exact aw_iret dX8_pace_52 rfl (by
              have hn : ¬ rg κ.1 13 (nI k) = 2 := by rw [rg, ck, ekd]; decide
              refine ⟨?_, ?_, hK⟩ <;> first | (simp [f_pace, q2, *]; done) | (simp [f_pace, q2, *]; exact hC))
      | 1, _ =>
        refine aw_instNo dX8_pace_22 tw_364 (C := RX7) (by decide) h rfl ?_
        refine aw_if_eq (tgt := 50) dX8_pace_25 (by decide) (fun h25 => ?_) (fun h25 => absurd rfl h25)
        refine aw_bipush (v := -13) dX8_pace_50 (by decide) ?_
        exact aw_iret dX8_pace_52 rfl (by
              have hn : ¬ rg κ.1 13 (nI k) = 2 := by rw [rg, ck, ekd]; decide
              refine ⟨?_, ?_, hK⟩ <;> first | (simp [f_pace, q2, *]; done) | (simp [f_pace, q2, *]; exact hC))
      | 2, _ =>
        refine aw_instS dX8_pace_22 tw_364 h rfl ?_
        refine aw_if_eq (tgt := 50) dX8_pace_25 (by decide) (fun h25 => absurd h25 (by decide)) (fun h25 => ?_)
        refine aw_aload_n dX8_pace_28 rfl ?_
        refine aw_castS dX8_pace_29 tw_364 h rfl ?_
        refine aw_astore dX8_pace_32 rfl (by decide) ?_
        refine aw_aload dX8_pace_34 rfl ?_
        refine aw_get dX8_pace_36 fg_X8_113_1 h rfl ?_
        refine aw_istore dX8_pace_39 rfl (by decide) ?_
        refine aw_aload dX8_pace_41 rfl ?_
        refine aw_iload_n dX8_pace_43 rfl ?_
        refine aw_put dX8_pace_44 fl_X8_113_1 h rfl rfl (by simp) ?_
        have hn : rg κ.1 13 (nI k) = 2 := by rw [rg, ck, ekd]; decide
        have hn2 : κ.1.2.1 13 k = 2 := by rw [ekd]; decide
        have hC9 := cput_M12 hC hk r
        rw [ekd, efi, nI_cl (show fi < 2 ^ 31 by omega), nI_cl (show 2 < 2 ^ 31 by omega)] at hC9
        refine aw_iload dX8_pace_47 rfl ?_
        exact aw_iret dX8_pace_49 rfl (by
          refine ⟨?_, ?_, hK.put h (show 15 < 20 by decide)⟩
          · simp [f_pace, q2, h16, hn2, rg, ck]
          · simp [f_pace, q2, h16, hn2, rp, rg, ck]
            exact hC9)
    · replace h16 := b2i_n.mp h16
      simp at h16
      refine aw_iconst (v := -1) dX8_pace_19 (by decide) ?_
      exact aw_iret dX8_pace_20 rfl (by refine ⟨?_, ?_, hK⟩ <;> first | (simp [f_pace, q2, *]; done) | (simp [f_pace, q2, *, rp, rpz]; exact hC))
def k_cd (κ : cS) (d : Int32) (i : Nat) (s : Int32) : Int32 := s + b2i (decide (κ.1.2.1 19 i = d))
set_option maxRecDepth 100000 in
set_option maxHeartbeats 4000000 in
theorem c_countDoing {l : Launch} {g : ab_G} {M : ab_M} {α : Nat → Nat → Nat} {nf nj nm : Nat} {κ : cS} (hC : CC g M α nf nj nm κ) (hI : cI0 nf nj nm κ) {d : Int32} : AM l g Y_X8_countDoing 3 64 0 0 [.ref (α 0 0), .int d] M (ab_Qi (fun x M' => x = lp (k_cd κ d) 0 nm 0 ∧ M' = M)) := by
  refine AM.of [some (.ref (α 0 0)), some (.int d), none, none] (by decide +kernel) (Nat.le_of_ble_eq_true rfl) rfl ?_
  have hb := hI.1
  have hK : KH M M := KT.rf
  refine aw_iconst (v := 0) dX8_countDoing_0 (by decide) ?_
  refine aw_istore_n dX8_countDoing_1 rfl (by decide) ?_
  refine aw_iconst (v := 0) dX8_countDoing_2 (by decide) ?_
  refine aw_istore_n dX8_countDoing_3 rfl (by decide) ?_
  refine gl (fun _ M9 => M9 = M) (fun i s M9 => AW l g ab_X0 (ab_Z g (ab_Qi (fun x M' => x = lp (k_cd κ d) 0 nm 0 ∧ M' = M))) Y_X8_countDoing 3 64 0 0 4 [some (.ref (α 0 0)), some (.int d), some (.int (s)), some (.int (nI i))] [] M9) (k_cd κ d) (fun _ _ => True) nm (fun _ _ _ _ => trivial) ?_ nm 0 0 M (Nat.zero_add _) trivial rfl ?_
  · intro i s M9 hi _ hp kk
    replace hp := hp.symm
    subst hp
    have kk : ∀ s9 : Int32, s9 = k_cd κ d i s → AW l g ab_X0 (ab_Z g (ab_Qi (fun x M' => x = lp (k_cd κ d) 0 nm 0 ∧ M' = M))) Y_X8_countDoing 3 64 0 0 4 [some (.ref (α 0 0)), some (.int d), some (.int (s9)), some (.int (nI (i + 1)))] [] M := fun s9 e9 => by rw [e9]; exact kk M rfl trivial
    refine aw_iload_n dX8_countDoing_4 rfl ?_
    refine aw_aload_n dX8_countDoing_5 rfl ?_
    refine aw_get dX8_countDoing_6 fg_X8_19_9 hC.1 rfl ?_
    obtain ⟨u9, v9, s9⟩ := szM hC
    refine aw_V0i (kc' := 0) (ks' := 0) dX8_countDoing_9 cs_X8_62_0 s9 (j_size s9) rfl (Nat.le_of_ble_eq_true rfl) (fun x9 M9 h9 => ?_)
    obtain ⟨rfl, e9⟩ := h9
    replace e9 := e9.symm
    subst e9
    refine aw_icmp_ge (tgt := 42) dX8_countDoing_12 (by decide) (fun h12 => absurd (nI_lt hi (by omega)) (Int32.not_lt.mpr h12)) (fun h12 => ?_)
    refine aw_aload_n dX8_countDoing_15 rfl ?_
    refine aw_get dX8_countDoing_16 fg_X8_19_9 hC.1 rfl ?_
    refine aw_iload_n dX8_countDoing_19 rfl ?_
    obtain ⟨u20, v20, s20⟩ := szM hC
    refine aw_V1r (kc' := 0) (ks' := 0) dX8_countDoing_20 cs_X8_187_0 s20 (w_getM hC hi) rfl (Nat.le_of_ble_eq_true rfl) (fun x20 M20 h20 => ?_)
    obtain ⟨rfl, e20⟩ := h20
    replace e20 := e20.symm
    subst e20
    refine aw_castMan dX8_countDoing_23 tw_449 (cMan hC hi) ?_
    refine aw_get dX8_countDoing_26 (fM_X8_116 _) (gM hC hi) rfl ?_
    refine aw_iload_n dX8_countDoing_29 rfl ?_
    refine aw_icmp_ne (tgt := 36) dX8_countDoing_30 (by decide) (fun h30 => ?_) (fun h30 => ?_)
    · refine aw_iinc dX8_countDoing_36 rfl (ii_1 i) rfl (by decide) ?_
      refine aw_goto (tgt := 4) dX8_countDoing_39 (by decide) ?_
      exact kk _ (by first | (simp [k_cd, b2i, h30]; done) | (rw [k_cd, b2i, if_pos (decide_eq_true h30)]; rfl))
    · refine aw_iinc dX8_countDoing_33 rfl rfl rfl (by decide) ?_
      refine aw_iinc dX8_countDoing_36 rfl (ii_1 i) rfl (by decide) ?_
      refine aw_goto (tgt := 4) dX8_countDoing_39 (by decide) ?_
      exact kk _ (by first | (simp [k_cd, b2i, h30]; done) | (rw [k_cd, b2i, if_pos (decide_eq_true h30)]; rfl))
  · intro M9 hp _
    replace hp := hp.symm
    subst hp
    refine aw_iload_n dX8_countDoing_4 rfl ?_
    refine aw_aload_n dX8_countDoing_5 rfl ?_
    refine aw_get dX8_countDoing_6 fg_X8_19_9 hC.1 rfl ?_
    obtain ⟨u9, v9, s9⟩ := szM hC
    refine aw_V0i (kc' := 0) (ks' := 0) dX8_countDoing_9 cs_X8_62_0 s9 (j_size s9) rfl (Nat.le_of_ble_eq_true rfl) (fun x9 M9 h9 => ?_)
    obtain ⟨rfl, e9⟩ := h9
    replace e9 := e9.symm
    subst e9
    refine aw_icmp_ge (tgt := 42) dX8_countDoing_12 (by decide) (fun h12 => ?_) (fun h12 => absurd (Int32.le_refl _) h12)
    refine aw_iload_n dX8_countDoing_42 rfl ?_
    exact aw_iret dX8_countDoing_43 rfl ⟨rfl, rfl⟩
theorem cd_eq {nf nj nm : Nat} {κ : cS} (hI : cI0 nf nj nm κ) {w d : Int32} (e : w - 3 = d) : lp (k_cd κ d) 0 nm 0 = lp (k_cnt κ.1 w) 0 (κ.1.1 12).toNatClampNeg 0 := by
  have hb := hI.1
  subst e
  rw [hI.2.1.2.2, nI_cl (by omega)]
  have key : ∀ n i s, i + n < 1000 → lp (k_cd κ (w - 3)) i n s = lp (k_cnt κ.1 w) i n s := by
    intro n
    induction n with
    | zero => intro i s _; rfl
    | succ n ih =>
      intro i s h
      rw [lp, lp, ih (i + 1) _ (by omega)]
      congr 1
      rw [k_cd, k_cnt, rg, nI_cl (by omega)]
  exact key nm 0 0 (by omega)
set_option maxRecDepth 100000 in
set_option maxHeartbeats 4000000 in
theorem c_count {l : Launch} {g : ab_G} {M : ab_M} {α : Nat → Nat → Nat} {nf nj nm : Nat} {κ : cS} (hC : CC g M α nf nj nm κ) (hI : cI0 nf nj nm κ) {w : Int32} : AM l g Y_X8_count 4 87 0 0 [.ref (α 0 0), .int w] M (ab_Qi (fun x M' => x = f_count κ.1 w ∧ M' = M)) := by
  refine AM.of [some (.ref (α 0 0)), some (.int w)] (by decide +kernel) (Nat.le_of_ble_eq_true rfl) rfl ?_
  have hb := hI.1
  have hK : KH M M := KT.rf
  refine aw_iload_n dX8_count_0 rfl ?_
  by_cases e0 : w = 0
  · refine aw_swAt 0 (off := 43) (tgt := 44) e0 dX8_count_1 (by decide) (by decide) (by decide) (by decide) ?_
    refine aw_aload_n dX8_count_44 rfl ?_
    refine aw_get dX8_count_45 fg_X8_10_9 hC.1 rfl ?_
    obtain ⟨u48, v48, s48⟩ := szF hC
    refine aw_V0i (kc' := 0) (ks' := 0) dX8_count_48 cs_X8_62_0 s48 (j_size s48) rfl (Nat.le_of_ble_eq_true rfl) (fun x48 M48 h48 => ?_)
    obtain ⟨rfl, e48⟩ := h48
    replace e48 := e48.symm
    subst e48
    exact aw_iret dX8_count_51 rfl ⟨by subst e0; rw [f_count, if_pos rfl]; exact hI.2.1.1.symm, rfl⟩
  · skip
    by_cases e1 : w = 1
    · refine aw_swAt 1 (off := 51) (tgt := 52) e1 dX8_count_1 (by decide) (by decide) (by decide) (by decide) ?_
      refine aw_aload_n dX8_count_52 rfl ?_
      refine aw_get dX8_count_53 fg_X8_16_9 hC.1 rfl ?_
      obtain ⟨u56, v56, s56⟩ := szJ hC
      refine aw_V0i (kc' := 0) (ks' := 0) dX8_count_56 cs_X8_62_0 s56 (j_size s56) rfl (Nat.le_of_ble_eq_true rfl) (fun x56 M56 h56 => ?_)
      obtain ⟨rfl, e56⟩ := h56
      replace e56 := e56.symm
      subst e56
      exact aw_iret dX8_count_59 rfl ⟨by subst e1; rw [f_count, if_neg (by decide), if_pos rfl]; exact hI.2.1.2.1.symm, rfl⟩
    · skip
      by_cases e2 : w = 2
      · refine aw_swAt 2 (off := 59) (tgt := 60) e2 dX8_count_1 (by decide) (by decide) (by decide) (by decide) ?_
        refine aw_aload_n dX8_count_60 rfl ?_
        refine aw_get dX8_count_61 fg_X8_19_9 hC.1 rfl ?_
        obtain ⟨u64, v64, s64⟩ := szM hC
        refine aw_V0i (kc' := 0) (ks' := 0) dX8_count_64 cs_X8_62_0 s64 (j_size s64) rfl (Nat.le_of_ble_eq_true rfl) (fun x64 M64 h64 => ?_)
        obtain ⟨rfl, e64⟩ := h64
        replace e64 := e64.symm
        subst e64
        exact aw_iret dX8_count_67 rfl ⟨by subst e2; rw [f_count, if_neg (by decide), if_neg (by decide), if_pos rfl]; exact hI.2.1.2.2.symm, rfl⟩
      · skip
        by_cases e3 : w = 3
        · refine aw_swAt 3 (off := 67) (tgt := 68) e3 dX8_count_1 (by decide) (by decide) (by decide) (by decide) ?_
          refine aw_aload_n dX8_count_68 rfl ?_
          refine aw_iconst (v := 0) dX8_count_69 (by decide) ?_
          refine aw_V1i (kc' := 0) (ks' := 0) dX8_count_70 cs_X8_220_9 hC.1 (c_countDoing hC hI) rfl (Nat.le_of_ble_eq_true rfl) (fun x70 M70 h70 => ?_)
          obtain ⟨rfl, e70⟩ := h70
          replace e70 := e70.symm
          subst e70
          exact aw_iret dX8_count_73 rfl ⟨by subst e3; rw [f_count, if_neg (by decide), if_neg (by decide), if_neg (by decide), if_pos rfl]; exact cd_eq hI (by decide), rfl⟩
        · skip
          by_cases e4 : w = 4
          · refine aw_swAt 4 (off := 73) (tgt := 74) e4 dX8_count_1 (by decide) (by decide) (by decide) (by decide) ?_
            refine aw_aload_n dX8_count_74 rfl ?_
            refine aw_iconst (v := 1) dX8_count_75 (by decide) ?_
            refine aw_V1i (kc' := 0) (ks' := 0) dX8_count_76 cs_X8_220_9 hC.1 (c_countDoing hC hI) rfl (Nat.le_of_ble_eq_true rfl) (fun x76 M76 h76 => ?_)
            obtain ⟨rfl, e76⟩ := h76
            replace e76 := e76.symm
            subst e76
            exact aw_iret dX8_count_79 rfl ⟨by subst e4; rw [f_count, if_neg (by decide), if_neg (by decide), if_neg (by decide), if_neg (by decide), if_pos rfl]; exact cd_eq hI (by decide), rfl⟩
          · skip
            by_cases e5 : w = 5
            · refine aw_swAt 5 (off := 79) (tgt := 80) e5 dX8_count_1 (by decide) (by decide) (by decide) (by decide) ?_
              refine aw_aload_n dX8_count_80 rfl ?_
              refine aw_iconst (v := 2) dX8_count_81 (by decide) ?_
              refine aw_V1i (kc' := 0) (ks' := 0) dX8_count_82 cs_X8_220_9 hC.1 (c_countDoing hC hI) rfl (Nat.le_of_ble_eq_true rfl) (fun x82 M82 h82 => ?_)
              obtain ⟨rfl, e82⟩ := h82
              replace e82 := e82.symm
              subst e82
              exact aw_iret dX8_count_85 rfl ⟨by subst e5; rw [f_count, if_neg (by decide), if_neg (by decide), if_neg (by decide), if_neg (by decide), if_neg (by decide), if_pos rfl]; exact cd_eq hI (by decide), rfl⟩
            · skip
              by_cases e6 : w = 6
              · refine aw_swAt 6 (off := 85) (tgt := 86) e6 dX8_count_1 (by decide) (by decide) (by decide) (by decide) ?_
                refine aw_aload_n dX8_count_86 rfl ?_
                refine aw_get dX8_count_87 fg_X8_32_9 hC.1 rfl ?_
                refine aw_get dX8_count_90 fg_X8_194_7 hC.2.2.1.1 rfl ?_
                exact aw_iret dX8_count_93 rfl ⟨by subst e6; rfl, rfl⟩
              · skip
                refine aw_swOut (tgt := 94) dX8_count_1 (by have := ne_toInt e0; have := ne_toInt e1; have := ne_toInt e2; have := ne_toInt e3; have := ne_toInt e4; have := ne_toInt e5; have := ne_toInt e6; simp only [show (0 : Int32).toInt = 0 by decide, show (1 : Int32).toInt = 1 by decide, show (2 : Int32).toInt = 2 by decide, show (3 : Int32).toInt = 3 by decide, show (4 : Int32).toInt = 4 by decide, show (5 : Int32).toInt = 5 by decide, show (6 : Int32).toInt = 6 by decide, show (7 : Int32).toInt = 7 by decide, show (8 : Int32).toInt = 8 by decide, show (9 : Int32).toInt = 9 by decide] at *; omega) (by decide) ?_
                refine aw_iconst (v := -1) dX8_count_94 (by decide) ?_
                exact aw_iret dX8_count_95 rfl ⟨by rw [f_count, if_neg e0, if_neg e1, if_neg e2, if_neg e3, if_neg e4, if_neg e5, if_neg e6], rfl⟩
set_option maxRecDepth 100000 in
set_option maxHeartbeats 4000000 in
theorem c_kind0 {l : Launch} {g : ab_G} {M : ab_M} {a : Nat} : AM l g Y_X5_kind 0 0 0 0 [.ref a] M (ab_Qi (fun x M' => x = 0 ∧ M' = M)) := by
  refine AM.of [some (.ref a)] (by decide +kernel) (Nat.le_of_ble_eq_true rfl) rfl ?_
  refine aw_iconst (v := 0) dX5_kind_0 (by decide) ?_
  exact aw_iret dX5_kind_1 rfl ⟨rfl, rfl⟩
set_option maxRecDepth 100000 in
set_option maxHeartbeats 4000000 in
theorem c_kind1 {l : Launch} {g : ab_G} {M : ab_M} {a : Nat} : AM l g Y_X7_kind 0 0 0 0 [.ref a] M (ab_Qi (fun x M' => x = 1 ∧ M' = M)) := by
  refine AM.of [some (.ref a)] (by decide +kernel) (Nat.le_of_ble_eq_true rfl) rfl ?_
  refine aw_iconst (v := 1) dX7_kind_0 (by decide) ?_
  exact aw_iret dX7_kind_1 rfl ⟨rfl, rfl⟩
set_option maxRecDepth 100000 in
set_option maxHeartbeats 4000000 in
theorem c_kind2 {l : Launch} {g : ab_G} {M : ab_M} {a : Nat} : AM l g Y_X0_kind 0 0 0 0 [.ref a] M (ab_Qi (fun x M' => x = 2 ∧ M' = M)) := by
  refine AM.of [some (.ref a)] (by decide +kernel) (Nat.le_of_ble_eq_true rfl) rfl ?_
  refine aw_iconst (v := 2) dX0_kind_0 (by decide) ?_
  exact aw_iret dX0_kind_1 rfl ⟨rfl, rfl⟩
def g_told (κ : cS) (k : Nat) (w : Int32) : Int32 := if w = 0 then κ.1.2.1 19 k else if w = 1 then (if κ.1.2.1 19 k = 0 then q_ct κ k (κ.2.1 (κ.1.2.1 15 k).toNatClampNeg) 0 true else κ.1.2.1 20 k) else if w = 2 then κ.1.2.1 21 k else if w = 3 then κ.1.2.1 22 k else if w = 4 then κ.1.2.1 15 k else if w = 5 then κ.1.2.1 16 k else if w = 6 then q_upC κ k (κ.1.2.1 16 k).toNatClampNeg else if w = 7 then q_dnC κ k (κ.1.2.1 16 k).toNatClampNeg else if w = 8 then κ.1.2.1 13 k else -1
set_option maxRecDepth 100000 in
set_option maxHeartbeats 4000000 in
theorem c_told {l : Launch} {g : ab_G} {M : ab_M} {α : Nat → Nat → Nat} {nf nj nm : Nat} {κ : cS} (hC : CC g M α nf nj nm κ) (hI : cI0 nf nj nm κ) (hW : ∀ i, i < nf → ∀ x ∈ κ.2.1 i, x < nm) {m w : Int32} : AM l g Y_X8_told 4 89 0 0 [.ref (α 0 0), .int m, .int w] M (ab_Qi (fun x M' => ((q_isM κ.1 m = false ∧ x = -1) ∨ ∃ k, k < nm ∧ m = nI k ∧ q_isM κ.1 m = true ∧ x = g_told κ k w) ∧ M' = M)) := by
  refine AM.of [some (.ref (α 0 0)), some (.int m), some (.int w), none] (by decide +kernel) (Nat.le_of_ble_eq_true rfl) rfl ?_
  have hb := hI.1
  have hK : KH M M := KT.rf
  refine aw_aload_n dX8_told_0 rfl ?_
  refine aw_iload_n dX8_told_1 rfl ?_
  refine aw_V1q (kc' := 0) (ks' := 0) dX8_told_2 cs_X8_104_9 hC.1 (w_manAt hC) rfl (Nat.le_of_ble_eq_true rfl) (fun x2 M2 h2 => ?_)
  obtain ⟨rfl, e2⟩ := h2
  replace e2 := e2.symm
  subst e2
  rcases at_M hI (α 15) m with ⟨e2, q2⟩ | ⟨k, hk, rfl, e2, q2⟩
  · rw [e2]
    refine aw_astore_nN dX8_told_5 rfl (by decide) ?_
    refine aw_aload_nN dX8_told_6 rfl ?_
    refine aw_ifnonnullN dX8_told_7 ?_
    refine aw_iconst (v := -1) dX8_told_10 (by decide) ?_
    exact aw_iret dX8_told_11 rfl ⟨Or.inl ⟨q2, rfl⟩, rfl⟩
  · rw [e2]
    have ck := nI_cl (n := k) (by omega)
    refine aw_astore_n dX8_told_5 rfl (by decide) ?_
    refine aw_aload_n dX8_told_6 rfl ?_
    refine aw_ifnonnull (tgt := 12) dX8_told_7 (by decide) ?_
    refine aw_iload_n dX8_told_12 rfl ?_
    obtain ⟨fi, hfi, efi⟩ := hI.2.2.1 k hk
    obtain ⟨ji, hji, eji⟩ := hI.2.2.2.1 k hk
    obtain ⟨kd, hkd, ekd⟩ := hI.2.2.2.2 k hk
    have c1 := nI_cl (n := fi) (by omega)
    have c2 := nI_cl (n := ji) (by omega)
    by_cases e0 : w = 0
    · refine aw_swAt 0 (off := 51) (tgt := 64) e0 dX8_told_13 (by decide) (by decide) (by decide) (by decide) ?_
      refine aw_aload_n dX8_told_64 rfl ?_
      refine aw_get dX8_told_65 (fM_X8_116 _) (gM hC hk) rfl ?_
      exact aw_iret dX8_told_68 rfl ⟨Or.inr ⟨k, hk, rfl, q2, by rw [g_told, if_pos e0]⟩, rfl⟩
    · skip
      by_cases e1 : w = 1
      · refine aw_swAt 1 (off := 56) (tgt := 69) e1 dX8_told_13 (by decide) (by decide) (by decide) (by decide) ?_
        refine aw_aload_n dX8_told_69 rfl ?_
        refine aw_get dX8_told_70 (fM_X8_116 _) (gM hC hk) rfl ?_
        refine aw_if_ne (tgt := 87) dX8_told_73 (by decide) (fun h73 => ?_) (fun h73 => ?_)
        · refine aw_aload_n dX8_told_87 rfl ?_
          refine aw_get dX8_told_88 (fM_X8_152 _) (gM hC hk) rfl ?_
          exact aw_iret dX8_told_91 rfl ⟨Or.inr ⟨k, hk, rfl, q2, by first | (rw [g_told, if_neg e0, if_pos e1, if_pos h73, efi, c1]; done) | (rw [g_told, if_neg e0, if_pos e1, if_neg h73])⟩, rfl⟩
        · refine aw_aload_n dX8_told_76 rfl ?_
          refine cw_gM2 dX8_told_77 (fM_X8_122 _) hC hk efi (by omega) ?_
          refine aw_aload_n dX8_told_80 rfl ?_
          refine aw_V1i (kc' := 0) (ks' := 0) dX8_told_81 cs_X8_148_3 (gF hC hfi) (c_countAhead hC hI hfi hk (hW fi hfi)) rfl (Nat.le_of_ble_eq_true rfl) (fun x81 M81 h81 => ?_)
          obtain ⟨rfl, e81⟩ := h81
          replace e81 := e81.symm
          subst e81
          refine aw_goto (tgt := 91) dX8_told_84 (by decide) ?_
          exact aw_iret dX8_told_91 rfl ⟨Or.inr ⟨k, hk, rfl, q2, by first | (rw [g_told, if_neg e0, if_pos e1, if_pos h73, efi, c1]; done) | (rw [g_told, if_neg e0, if_pos e1, if_neg h73])⟩, rfl⟩
      · skip
        by_cases e2 : w = 2
        · refine aw_swAt 2 (off := 79) (tgt := 92) e2 dX8_told_13 (by decide) (by decide) (by decide) (by decide) ?_
          refine aw_aload_n dX8_told_92 rfl ?_
          refine aw_get dX8_told_93 (fM_X8_155 _) (gM hC hk) rfl ?_
          exact aw_iret dX8_told_96 rfl ⟨Or.inr ⟨k, hk, rfl, q2, by rw [g_told, if_neg e0, if_neg e1, if_pos e2]⟩, rfl⟩
        · skip
          by_cases e3 : w = 3
          · refine aw_swAt 3 (off := 84) (tgt := 97) e3 dX8_told_13 (by decide) (by decide) (by decide) (by decide) ?_
            refine aw_aload_n dX8_told_97 rfl ?_
            refine aw_get dX8_told_98 (fM_X8_158 _) (gM hC hk) rfl ?_
            exact aw_iret dX8_told_101 rfl ⟨Or.inr ⟨k, hk, rfl, q2, by rw [g_told, if_neg e0, if_neg e1, if_neg e2, if_pos e3]⟩, rfl⟩
          · skip
            by_cases e4 : w = 4
            · refine aw_swAt 4 (off := 89) (tgt := 102) e4 dX8_told_13 (by decide) (by decide) (by decide) (by decide) ?_
              refine aw_aload_n dX8_told_102 rfl ?_
              refine cw_gM2 dX8_told_103 (fM_X8_122 _) hC hk efi (by omega) ?_
              refine aw_get dX8_told_106 fg_X8_161_3 (gF hC hfi) rfl ?_
              exact aw_iret dX8_told_109 rfl ⟨Or.inr ⟨k, hk, rfl, q2, by rw [g_told, if_neg e0, if_neg e1, if_neg e2, if_neg e3, if_pos e4, efi]⟩, rfl⟩
            · skip
              by_cases e5 : w = 5
              · refine aw_swAt 5 (off := 97) (tgt := 110) e5 dX8_told_13 (by decide) (by decide) (by decide) (by decide) ?_
                refine aw_aload_n dX8_told_110 rfl ?_
                refine cw_gM3 dX8_told_111 (fM_X8_126 _) hC hk eji (by omega) ?_
                refine aw_get dX8_told_114 fg_X8_164_5 (gJ hC hji) rfl ?_
                exact aw_iret dX8_told_117 rfl ⟨Or.inr ⟨k, hk, rfl, q2, by rw [g_told, if_neg e0, if_neg e1, if_neg e2, if_neg e3, if_neg e4, if_pos e5, eji]⟩, rfl⟩
              · skip
                by_cases e6 : w = 6
                · refine aw_swAt 6 (off := 105) (tgt := 118) e6 dX8_told_13 (by decide) (by decide) (by decide) (by decide) ?_
                  refine aw_aload_n dX8_told_118 rfl ?_
                  refine aw_aload_n dX8_told_119 rfl ?_
                  refine cw_gM3 dX8_told_120 (fM_X8_126 _) hC hk eji (by omega) ?_
                  refine aw_V1i (kc' := 0) (ks' := 0) dX8_told_123 (csM_X8_165 _) (gM hC hk) (w_wayUp hC hI hk hji) rfl (Nat.le_of_ble_eq_true rfl) (fun x123 M123 h123 => ?_)
                  obtain ⟨rfl, e123⟩ := h123
                  replace e123 := e123.symm
                  subst e123
                  exact aw_iret dX8_told_126 rfl ⟨Or.inr ⟨k, hk, rfl, q2, by rw [g_told, if_neg e0, if_neg e1, if_neg e2, if_neg e3, if_neg e4, if_neg e5, if_pos e6, eji, c2]⟩, rfl⟩
                · skip
                  by_cases e7 : w = 7
                  · refine aw_swAt 7 (off := 114) (tgt := 127) e7 dX8_told_13 (by decide) (by decide) (by decide) (by decide) ?_
                    refine aw_aload_n dX8_told_127 rfl ?_
                    refine aw_aload_n dX8_told_128 rfl ?_
                    refine cw_gM3 dX8_told_129 (fM_X8_126 _) hC hk eji (by omega) ?_
                    refine aw_V1i (kc' := 0) (ks' := 0) dX8_told_132 (csM_X8_169 _) (gM hC hk) (w_wayDown hC hI hk hji) rfl (Nat.le_of_ble_eq_true rfl) (fun x132 M132 h132 => ?_)
                    obtain ⟨rfl, e132⟩ := h132
                    replace e132 := e132.symm
                    subst e132
                    exact aw_iret dX8_told_135 rfl ⟨Or.inr ⟨k, hk, rfl, q2, by rw [g_told, if_neg e0, if_neg e1, if_neg e2, if_neg e3, if_neg e4, if_neg e5, if_neg e6, if_pos e7, eji, c2]⟩, rfl⟩
                  · skip
                    by_cases e8 : w = 8
                    · refine aw_swAt 8 (off := 123) (tgt := 136) e8 dX8_told_13 (by decide) (by decide) (by decide) (by decide) ?_
                      have h := gMk hC hk ekd hkd efi (by omega)
                      refine aw_aload_n dX8_told_136 rfl ?_
                      match kd, hkd with
                      | 0, _ =>
                        refine aw_V0i (kc' := 0) (ks' := 0) dX8_told_137 cs_X8_172_6 h c_kind0 rfl (Nat.le_of_ble_eq_true rfl) (fun x137 M137 h137 => ?_)
                        obtain ⟨rfl, e137⟩ := h137
                        replace e137 := e137.symm
                        subst e137
                        exact aw_iret dX8_told_140 rfl ⟨Or.inr ⟨k, hk, rfl, q2, by rw [g_told, if_neg e0, if_neg e1, if_neg e2, if_neg e3, if_neg e4, if_neg e5, if_neg e6, if_neg e7, if_pos e8, ekd]; rfl⟩, rfl⟩
                      | 1, _ =>
                        refine aw_V0i (kc' := 0) (ks' := 0) dX8_told_137 cs_X8_172_8 h c_kind1 rfl (Nat.le_of_ble_eq_true rfl) (fun x137 M137 h137 => ?_)
                        obtain ⟨rfl, e137⟩ := h137
                        replace e137 := e137.symm
                        subst e137
                        exact aw_iret dX8_told_140 rfl ⟨Or.inr ⟨k, hk, rfl, q2, by rw [g_told, if_neg e0, if_neg e1, if_neg e2, if_neg e3, if_neg e4, if_neg e5, if_neg e6, if_neg e7, if_pos e8, ekd]; rfl⟩, rfl⟩
                      | 2, _ =>
                        refine aw_V0i (kc' := 0) (ks' := 0) dX8_told_137 cs_X8_172_1 h c_kind2 rfl (Nat.le_of_ble_eq_true rfl) (fun x137 M137 h137 => ?_)
                        obtain ⟨rfl, e137⟩ := h137
                        replace e137 := e137.symm
                        subst e137
                        exact aw_iret dX8_told_140 rfl ⟨Or.inr ⟨k, hk, rfl, q2, by rw [g_told, if_neg e0, if_neg e1, if_neg e2, if_neg e3, if_neg e4, if_neg e5, if_neg e6, if_neg e7, if_pos e8, ekd]; rfl⟩, rfl⟩
                    · skip
                      refine aw_swOut (tgt := 141) dX8_told_13 (by have := ne_toInt e0; have := ne_toInt e1; have := ne_toInt e2; have := ne_toInt e3; have := ne_toInt e4; have := ne_toInt e5; have := ne_toInt e6; have := ne_toInt e7; have := ne_toInt e8; simp only [show (0 : Int32).toInt = 0 by decide, show (1 : Int32).toInt = 1 by decide, show (2 : Int32).toInt = 2 by decide, show (3 : Int32).toInt = 3 by decide, show (4 : Int32).toInt = 4 by decide, show (5 : Int32).toInt = 5 by decide, show (6 : Int32).toInt = 6 by decide, show (7 : Int32).toInt = 7 by decide, show (8 : Int32).toInt = 8 by decide, show (9 : Int32).toInt = 9 by decide] at *; omega) (by decide) ?_
                      refine aw_iconst (v := -1) dX8_told_141 (by decide) ?_
                      exact aw_iret dX8_told_142 rfl ⟨Or.inr ⟨k, hk, rfl, q2, by rw [g_told, if_neg e0, if_neg e1, if_neg e2, if_neg e3, if_neg e4, if_neg e5, if_neg e6, if_neg e7, if_neg e8]⟩, rfl⟩
