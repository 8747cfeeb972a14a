/-! ===== man, moves ===== -/
def cgr (κ : cS) (i : Nat) : cS := (κ.1, κ.2.1, fun r => if r = 100 then upd (κ.2.2 100) i 1 else κ.2.2 r)
theorem cset_rowG {g : ab_G} {M M2 : ab_M} {α : Nat → Nat → Nat} {nf nj nm i : Nat} {κ : cS} {ls : List Nat} (hC : CC g M α nf nj nm κ) (hb : nf ≤ 4 ∧ nj ≤ 8 ∧ nm ≤ 10) (hi : i < nf) (hK : KT (fun q => q = (11, i) ∨ q = (12, i)) M M2) (hl : LG g M2 (α 11 i) (11, i) (12, i) (ls.map (α 15))) : CC g M2 α nf nj nm (cgr (cw κ i ls) i) := by
  obtain ⟨h1, h2, h3, h4, h5, h6, h7, h8, h9, h10⟩ := cset_row hC hi hK hl
  refine ⟨h1, h2, h3, h4, h5, h6, fun j hj => ?_, h8, h9, fun k hk => ?_⟩
  · have e : (cgr (cw κ i ls) i).2.2 j = (cw κ i ls).2.2 j := by
      show (if j = 100 then _ else _) = _
      rw [if_neg (by omega)]
    rw [e]
    exact h7 j hj
  · by_cases e : k = i
    · subst e
      have e2 : (cgr (cw κ k ls) k).2.1 k = ls := by
        show (if k = k then ls else _) = _
        rw [if_pos rfl]
      rw [e2]
      exact ⟨Or.inl hl, fun _ => hl⟩
    · have e2 : (cgr (cw κ i ls) i).2.2 100 k = (cw κ i ls).2.2 100 k := by
        show upd _ i 1 k = _
        simp [upd, e]
      have h11 := h10 k hk
      rw [e2]
      exact h11
theorem w_can {l : Launch} {g : ab_G} {M : ab_M} {a b k : Nat} {tb : Nat × Nat} {w0 w2 w3 w4 w5 w6 : Value} {fl : Int32} (hk : k < 3) (hb : M b = some (tb, .inr (5, [w0, .int fl, w2, w3, w4, w5, w6]))) : ∃ z, ab_cV RX8 95 (kci k) z 1 ∧ z.2.2.1 = 2 ∧ AM l g z 0 0 0 0 [.ref a, .ref b] M (ab_Qi (fun x M' => x = b2i (q_can k fl) ∧ M' = M)) := by
  match k, hk with
  | 0, _ => exact ⟨Y_X5_canGoTo, cs_X8_95_6, rfl, c_canM hb⟩
  | 1, _ => exact ⟨Y_X7_canGoTo, cs_X8_95_8, rfl, c_canS⟩
  | 2, _ => exact ⟨Y_X7_canGoTo, cs_X8_95_1, rfl, c_canS⟩
theorem w_newMan {l : Launch} {g : ab_G} {M : ab_M} (tg : Nat × Nat) {fa ja k : Nat} {n w : Int32} (hk : k < 3) : AM l g Y_X8_newMan 4 92 1 13 [.int (nI k), .int n, .int w, .ref fa, .ref ja] M (ab_Qr (fun a M' => M a = none ∧ M' = ab_set M a tg (mC k n w fa ja 0 0 0 0 0 (-1) (-1) (-1) 2))) := by
  match k, hk with
  | 0, _ => exact c_newMan0 tg
  | 1, _ => exact c_newMan1 tg
  | 2, _ => exact c_newMan2 tg
set_option maxRecDepth 100000 in
set_option maxHeartbeats 4000000 in
theorem c_joinRowA {l : Launch} {g : ab_G} {M : ab_M} {α : Nat → Nat → Nat} {nf nj nm : Nat} {κ : cS} (hC : CC g M α nf nj nm κ) (hI : cI0 nf nj nm κ) {m : Nat} (hm : m < nm) (hln : (κ.2.1 (κ.1.2.1 15 m).toNatClampNeg).length < 10) : AM l g Y_X5_joinRow 5 108 1 10 [.ref (α 15 m)] M (ab_Qv (fun M' => CC g M' α nf nj nm (cgr (g_join κ m) (κ.1.2.1 15 m).toNatClampNeg) ∧ KH M M')) := by
  refine AM.of [some (.ref (α 15 m))] (by decide +kernel) (Nat.le_of_ble_eq_true rfl) rfl ?_
  obtain ⟨fi, hfi, efi⟩ := hI.2.2.1 m hm
  obtain ⟨ji, hji, eji⟩ := hI.2.2.2.1 m hm
  have hb := hI.1
  have hK : KH M M := KT.rf
  rw [efi, nI_cl (show fi < 2 ^ 31 by omega)] at hln ⊢
  refine aw_aload_n dX5_joinRow_0 rfl ?_
  refine aw_iconst (v := 0) dX5_joinRow_1 (by decide) ?_
  refine cw_pM5 dX5_joinRow_2 (pM_X5_15 _) hC hm hK (fun M hC hK => ?_)
  refine aw_aload_n dX5_joinRow_5 rfl ?_
  refine cw_gM2 dX5_joinRow_6 (fM_X5_42 _) hC hm efi (by omega) ?_
  refine aw_get dX5_joinRow_9 fg_X5_79_3 (gF hC hfi) rfl ?_
  refine aw_aload_n dX5_joinRow_12 rfl ?_
  refine aw_addA (kc' := 0) (ks' := 0) dX5_joinRow_13 cs_X5_85_0 (by simp) (hC.2.2.2.2.2.2.2.2.2 fi hfi).1 (by rw [List.length_map]; exact hln) (cOm hC hm) (by simp) rfl (Nat.le_of_ble_eq_true rfl) (fun M13 h1 h2 => ?_)
  replace hC := cset_rowG hC hb hfi h2 (ls := κ.2.1 fi ++ [m]) (by rw [List.map_append]; exact h1)
  replace hK := hK.tr (h2.wid (fun t h => rowT h))
  refine aw_pop dX5_joinRow_16 rfl ?_
  exact aw_vret dX5_joinRow_17 rfl ⟨by rw [g_join, efi, nI_cl (show fi < 2 ^ 31 by omega)]; exact hC, hK⟩
def g_moves (κ : cS) (m f j : Nat) : Int32 × cS := if κ.1.2.1 19 m = 0 then (if q_can (κ.1.2.1 13 m).toNatClampNeg (κ.1.2.1 6 j) = true then (1, cgr (g_join (cp (cp (g_leave κ m) 15 m (nI f)) 16 m (nI j)) m) f) else (-2, κ)) else (-2, κ)
theorem moves_I0 {nf nj nm m f j : Nat} {κ : cS} (h : cI0 nf nj nm κ) (hf : f < nf) (hj : j < nj) : cI0 nf nj nm (cp (cp (g_leave κ m) 15 m (nI f)) 16 m (nI j)) := by
  refine ⟨h.1, h.2.1, fun x hx => ?_, fun x hx => ?_, h.2.2.2.2⟩
  · show ∃ i, i < nf ∧ upd (κ.1.2.1 15) m (nI f) x = nI i
    by_cases e : x = m
    · exact ⟨f, hf, by simp [upd, e]⟩
    · obtain ⟨i, h1, h2⟩ := h.2.2.1 x hx
      exact ⟨i, h1, by simp [upd, e, h2]⟩
  · show ∃ i, i < nj ∧ upd (κ.1.2.1 16) m (nI j) x = nI i
    by_cases e : x = m
    · exact ⟨j, hj, by simp [upd, e]⟩
    · obtain ⟨i, h1, h2⟩ := h.2.2.2.1 x hx
      exact ⟨i, h1, by simp [upd, e, h2]⟩
set_option maxRecDepth 100000 in
set_option maxHeartbeats 4000000 in
theorem c_moves {l : Launch} {g : ab_G} {M : ab_M} {α : Nat → Nat → Nat} {nf nj nm : Nat} {κ : cS} (hC : CC g M α nf nj nm κ) (hI : cI nf nj nm κ) {mm ff jj : Int32} : AM l g Y_X8_moves 6 128 1 10 [.ref (α 0 0), .int mm, .int ff, .int jj] M (ab_Qi (fun x M' => (((q_isM κ.1 mm = false ∨ q_isF κ.1 ff = false ∨ q_isJ κ.1 jj = false) ∧ x = -1 ∧ CC g M' α nf nj nm κ) ∨ ∃ m f j, m < nm ∧ f < nf ∧ j < nj ∧ mm = nI m ∧ ff = nI f ∧ jj = nI j ∧ q_isM κ.1 mm = true ∧ q_isF κ.1 ff = true ∧ q_isJ κ.1 jj = true ∧ x = (g_moves κ m f j).1 ∧ CC g M' α nf nj nm (g_moves κ m f j).2) ∧ KH M M')) := by
  refine AM.of [some (.ref (α 0 0)), some (.int mm), some (.int ff), some (.int jj), none, none, none] (by decide +kernel) (Nat.le_of_ble_eq_true rfl) rfl ?_
  have hb := hI.1
  have hK : KH M M := KT.rf
  have hF := hI
  replace hI := hI.z
  refine aw_aload_n dX8_moves_0 rfl ?_
  refine aw_iload_n dX8_moves_1 rfl ?_
  refine aw_V1q (kc' := 1) (ks' := 10) dX8_moves_2 cs_X8_104_9 hC.1 (w_manAt hC) rfl (Nat.le_of_ble_eq_true rfl) (fun x2 M2 h2 => ?_)
  obtain ⟨rfl, e2⟩ := h2
  replace e2 := e2.symm
  subst e2
  rcases at_M hI (α 15) mm with ⟨e2, q2⟩ | ⟨m, hm, rfl, e2, q2⟩
  · rw [e2]
    refine aw_astoreN dX8_moves_5 rfl (by decide) ?_
    refine aw_aload_n dX8_moves_7 rfl ?_
    refine aw_iload_n dX8_moves_8 rfl ?_
    refine aw_V1q (kc' := 1) (ks' := 10) dX8_moves_9 cs_X8_87_9 hC.1 (w_fountainAt hC) rfl (Nat.le_of_ble_eq_true rfl) (fun x9 M9 h9 => ?_)
    obtain ⟨rfl, e9⟩ := h9
    replace e9 := e9.symm
    subst e9
    rcases at_F hI (α 10) ff with ⟨e9, q9⟩ | ⟨f, hf, rfl, e9, q9⟩
    · rw [e9]
      refine aw_astoreN dX8_moves_12 rfl (by decide) ?_
      refine aw_aload_n dX8_moves_14 rfl ?_
      refine aw_iload_n dX8_moves_15 rfl ?_
      refine aw_V1q (kc' := 1) (ks' := 10) dX8_moves_16 cs_X8_80_9 hC.1 (w_jarAt hC) rfl (Nat.le_of_ble_eq_true rfl) (fun x16 M16 h16 => ?_)
      obtain ⟨rfl, e16⟩ := h16
      replace e16 := e16.symm
      subst e16
      rcases at_J hI (α 13) jj with ⟨e16, q16⟩ | ⟨j, hj, rfl, e16, q16⟩
      · rw [e16]
        refine aw_astoreN dX8_moves_19 rfl (by decide) ?_
        refine aw_aloadN dX8_moves_21 rfl ?_
        refine aw_ifnullN (tgt := 36) dX8_moves_23 (by decide) ?_
        refine aw_iconst (v := -1) dX8_moves_36 (by decide) ?_
        exact aw_iret dX8_moves_37 rfl ⟨Or.inl ⟨by first | exact Or.inl q2 | exact Or.inr (Or.inl q9) | exact Or.inr (Or.inr q16), rfl, hC⟩, hK⟩
      · rw [e16]
        have cj := nI_cl (n := j) (by omega)
        refine aw_astore dX8_moves_19 rfl (by decide) ?_
        refine aw_aloadN dX8_moves_21 rfl ?_
        refine aw_ifnullN (tgt := 36) dX8_moves_23 (by decide) ?_
        refine aw_iconst (v := -1) dX8_moves_36 (by decide) ?_
        exact aw_iret dX8_moves_37 rfl ⟨Or.inl ⟨by first | exact Or.inl q2 | exact Or.inr (Or.inl q9) | exact Or.inr (Or.inr q16), rfl, hC⟩, hK⟩
    · rw [e9]
      have cf := nI_cl (n := f) (by omega)
      refine aw_astore dX8_moves_12 rfl (by decide) ?_
      refine aw_aload_n dX8_moves_14 rfl ?_
      refine aw_iload_n dX8_moves_15 rfl ?_
      refine aw_V1q (kc' := 1) (ks' := 10) dX8_moves_16 cs_X8_80_9 hC.1 (w_jarAt hC) rfl (Nat.le_of_ble_eq_true rfl) (fun x16 M16 h16 => ?_)
      obtain ⟨rfl, e16⟩ := h16
      replace e16 := e16.symm
      subst e16
      rcases at_J hI (α 13) jj with ⟨e16, q16⟩ | ⟨j, hj, rfl, e16, q16⟩
      · rw [e16]
        refine aw_astoreN dX8_moves_19 rfl (by decide) ?_
        refine aw_aloadN dX8_moves_21 rfl ?_
        refine aw_ifnullN (tgt := 36) dX8_moves_23 (by decide) ?_
        refine aw_iconst (v := -1) dX8_moves_36 (by decide) ?_
        exact aw_iret dX8_moves_37 rfl ⟨Or.inl ⟨by first | exact Or.inl q2 | exact Or.inr (Or.inl q9) | exact Or.inr (Or.inr q16), rfl, hC⟩, hK⟩
      · rw [e16]
        have cj := nI_cl (n := j) (by omega)
        refine aw_astore dX8_moves_19 rfl (by decide) ?_
        refine aw_aloadN dX8_moves_21 rfl ?_
        refine aw_ifnullN (tgt := 36) dX8_moves_23 (by decide) ?_
        refine aw_iconst (v := -1) dX8_moves_36 (by decide) ?_
        exact aw_iret dX8_moves_37 rfl ⟨Or.inl ⟨by first | exact Or.inl q2 | exact Or.inr (Or.inl q9) | exact Or.inr (Or.inr q16), rfl, hC⟩, hK⟩
  · rw [e2]
    have cm := nI_cl (n := m) (by omega)
    refine aw_astore dX8_moves_5 rfl (by decide) ?_
    refine aw_aload_n dX8_moves_7 rfl ?_
    refine aw_iload_n dX8_moves_8 rfl ?_
    refine aw_V1q (kc' := 1) (ks' := 10) dX8_moves_9 cs_X8_87_9 hC.1 (w_fountainAt hC) rfl (Nat.le_of_ble_eq_true rfl) (fun x9 M9 h9 => ?_)
    obtain ⟨rfl, e9⟩ := h9
    replace e9 := e9.symm
    subst e9
    rcases at_F hI (α 10) ff with ⟨e9, q9⟩ | ⟨f, hf, rfl, e9, q9⟩
    · rw [e9]
      refine aw_astoreN dX8_moves_12 rfl (by decide) ?_
      refine aw_aload_n dX8_moves_14 rfl ?_
      refine aw_iload_n dX8_moves_15 rfl ?_
      refine aw_V1q (kc' := 1) (ks' := 10) dX8_moves_16 cs_X8_80_9 hC.1 (w_jarAt hC) rfl (Nat.le_of_ble_eq_true rfl) (fun x16 M16 h16 => ?_)
      obtain ⟨rfl, e16⟩ := h16
      replace e16 := e16.symm
      subst e16
      rcases at_J hI (α 13) jj with ⟨e16, q16⟩ | ⟨j, hj, rfl, e16, q16⟩
      · rw [e16]
        refine aw_astoreN dX8_moves_19 rfl (by decide) ?_
        refine aw_aload dX8_moves_21 rfl ?_
        refine aw_ifnull dX8_moves_23 ?_
        refine aw_aloadN dX8_moves_26 rfl ?_
        refine aw_ifnullN (tgt := 36) dX8_moves_28 (by decide) ?_
        refine aw_iconst (v := -1) dX8_moves_36 (by decide) ?_
        exact aw_iret dX8_moves_37 rfl ⟨Or.inl ⟨by first | exact Or.inl q2 | exact Or.inr (Or.inl q9) | exact Or.inr (Or.inr q16), rfl, hC⟩, hK⟩
      · rw [e16]
        have cj := nI_cl (n := j) (by omega)
        refine aw_astore dX8_moves_19 rfl (by decide) ?_
        refine aw_aload dX8_moves_21 rfl ?_
        refine aw_ifnull dX8_moves_23 ?_
        refine aw_aloadN dX8_moves_26 rfl ?_
        refine aw_ifnullN (tgt := 36) dX8_moves_28 (by decide) ?_
        refine aw_iconst (v := -1) dX8_moves_36 (by decide) ?_
        exact aw_iret dX8_moves_37 rfl ⟨Or.inl ⟨by first | exact Or.inl q2 | exact Or.inr (Or.inl q9) | exact Or.inr (Or.inr q16), rfl, hC⟩, hK⟩
    · rw [e9]
      have cf := nI_cl (n := f) (by omega)
      refine aw_astore dX8_moves_12 rfl (by decide) ?_
      refine aw_aload_n dX8_moves_14 rfl ?_
      refine aw_iload_n dX8_moves_15 rfl ?_
      refine aw_V1q (kc' := 1) (ks' := 10) dX8_moves_16 cs_X8_80_9 hC.1 (w_jarAt hC) rfl (Nat.le_of_ble_eq_true rfl) (fun x16 M16 h16 => ?_)
      obtain ⟨rfl, e16⟩ := h16
      replace e16 := e16.symm
      subst e16
      rcases at_J hI (α 13) jj with ⟨e16, q16⟩ | ⟨j, hj, rfl, e16, q16⟩
      · rw [e16]
        refine aw_astoreN dX8_moves_19 rfl (by decide) ?_
        refine aw_aload dX8_moves_21 rfl ?_
        refine aw_ifnull dX8_moves_23 ?_
        refine aw_aload dX8_moves_26 rfl ?_
        refine aw_ifnull dX8_moves_28 ?_
        refine aw_aloadN dX8_moves_31 rfl ?_
        refine aw_ifnonnullN dX8_moves_33 ?_
        refine aw_iconst (v := -1) dX8_moves_36 (by decide) ?_
        exact aw_iret dX8_moves_37 rfl ⟨Or.inl ⟨by first | exact Or.inl q2 | exact Or.inr (Or.inl q9) | exact Or.inr (Or.inr q16), rfl, hC⟩, hK⟩
      · rw [e16]
        have cj := nI_cl (n := j) (by omega)
        refine aw_astore dX8_moves_19 rfl (by decide) ?_
        refine aw_aload dX8_moves_21 rfl ?_
        refine aw_ifnull dX8_moves_23 ?_
        refine aw_aload dX8_moves_26 rfl ?_
        refine aw_ifnull dX8_moves_28 ?_
        refine aw_aload dX8_moves_31 rfl ?_
        refine aw_ifnonnull (tgt := 38) dX8_moves_33 (by decide) ?_
        refine aw_aload dX8_moves_38 rfl ?_
        refine aw_get dX8_moves_40 (fM_X8_116 _) (gM hC hm) rfl ?_
        refine aw_if_ne (tgt := 56) dX8_moves_43 (by decide) (fun h43 => ?_) (fun h43 => ?_)
        · refine aw_bipush (v := -2) dX8_moves_56 (by decide) ?_
          exact aw_iret dX8_moves_58 rfl ⟨Or.inr ⟨m, f, j, hm, hf, hj, rfl, rfl, rfl, q2, q9, q16, by first | (rw [g_moves, if_neg h43]; done) | (rw [g_moves, if_pos h43, if_neg h53]; done), by first | (rw [g_moves, if_neg h43]; exact hC) | (rw [g_moves, if_pos h43, if_neg h53]; exact hC)⟩, hK⟩
        · refine aw_aload dX8_moves_46 rfl ?_
          refine aw_aload dX8_moves_48 rfl ?_
          obtain ⟨kd, hkd, ekd⟩ := hI.2.2.2.2 m hm
          have ckd := nI_cl (n := kd) (by omega)
          have hgm := gM hC hm
          obtain ⟨z, hz1, hz2, hz3⟩ := w_can (l := l) (g := g) (a := α 15 m) hkd (gJ hC hj)
          refine aw_V1i (kc' := 1) (ks' := 10) dX8_moves_50 (by rw [ekd, ckd]; exact hz1) hgm hz3 (by simp [ab_fit, hz2]) (Nat.le_of_ble_eq_true rfl) (fun x50 M50 h50 => ?_)
          obtain ⟨rfl, e50⟩ := h50
          replace e50 := e50.symm
          subst e50
          refine aw_if_ne (tgt := 59) dX8_moves_53 (by decide) (fun h53 => ?_) (fun h53 => ?_)
          · replace h53 := b2i_n.mp h53
            have h53 : q_can (κ.1.2.1 13 m).toNatClampNeg (κ.1.2.1 6 j) = true := by rw [ekd, ckd]; exact h53
            refine aw_aload dX8_moves_59 rfl ?_
            refine aw_V0v (kc' := 1) (ks' := 10) dX8_moves_61 (csM_X8_119 _) (gM hC hm) (c_leaveRow hC hI hm (fun x hx => ((hF.V _ (by obtain ⟨f9, h9, e9⟩ := hI.2.2.1 m hm; rw [e9, nI_cl (by omega)]; exact h9)).2 x hx).1)) rfl (Nat.le_of_ble_eq_true rfl) (fun M61 h61 => ?_)
            obtain ⟨hC, hK9⟩ := h61
            replace hK := hK.tr hK9
            refine aw_aload dX8_moves_64 rfl ?_
            refine aw_aload dX8_moves_66 rfl ?_
            refine cw_pM2 dX8_moves_68 (pM_X8_122 _) hC hm hK (by omega) (fun M hC hK => ?_)
            refine aw_aload dX8_moves_71 rfl ?_
            refine aw_aload dX8_moves_73 rfl ?_
            refine cw_pM3 dX8_moves_75 (pM_X8_126 _) hC hm hK (by omega) (fun M hC hK => ?_)
            have hi9 := leave_no (m := m) hF
            have hln : ((cp (cp (g_leave κ m) 15 m (nI f)) 16 m (nI j)).2.1 ((cp (cp (g_leave κ m) 15 m (nI f)) 16 m (nI j)).1.2.1 15 m).toNatClampNeg).length < 10 := by
              have e : (cp (cp (g_leave κ m) 15 m (nI f)) 16 m (nI j)).1.2.1 15 m = nI f := by show upd _ m (nI f) m = _; simp [upd]
              rw [e, cf]
              exact (show ((g_leave κ m).2.1 f).length < 10 from row_len (cI_leave (m := m) hF) hm hf (hi9 f hf))
            have e15 : ((cp (cp (g_leave κ m) 15 m (nI f)) 16 m (nI j)).1.2.1 15 m).toNatClampNeg = f := by
              have e : (cp (cp (g_leave κ m) 15 m (nI f)) 16 m (nI j)).1.2.1 15 m = nI f := by show upd _ m (nI f) m = _; simp [upd]
              rw [e, cf]
            have hI9 : cI0 nf nj nm (cp (cp (g_leave κ m) 15 m (nI f)) 16 m (nI j)) := moves_I0 hI hf hj
            generalize hκ9 : cp (cp (g_leave κ m) 15 m (nI f)) 16 m (nI j) = κ9 at hC hln hI9 e15
            refine aw_aload dX8_moves_78 rfl ?_
            refine aw_V0v (kc' := 0) (ks' := 0) dX8_moves_80 (csM_X8_101 _) (gM hC hm) (c_joinRowA hC hI9 hm hln) rfl (Nat.le_of_ble_eq_true rfl) (fun M80 h80 => ?_)
            obtain ⟨hC, hK9⟩ := h80
            replace hK := hK.tr hK9
            refine aw_iconst (v := 1) dX8_moves_83 (by decide) ?_
            exact aw_iret dX8_moves_84 rfl ⟨Or.inr ⟨m, f, j, hm, hf, hj, rfl, rfl, rfl, q2, q9, q16, by rw [g_moves, if_pos h43, if_pos h53], by rw [g_moves, if_pos h43, if_pos h53, hκ9]; rw [e15] at hC; exact hC⟩, hK⟩
          · replace h53 := b2i_0.mp h53
            have h53 : ¬ q_can (κ.1.2.1 13 m).toNatClampNeg (κ.1.2.1 6 j) = true := by rw [ekd, ckd, h53]; decide
            refine aw_bipush (v := -2) dX8_moves_56 (by decide) ?_
            exact aw_iret dX8_moves_58 rfl ⟨Or.inr ⟨m, f, j, hm, hf, hj, rfl, rfl, rfl, q2, q9, q16, by first | (rw [g_moves, if_neg h43]; done) | (rw [g_moves, if_pos h43, if_neg h53]; done), by first | (rw [g_moves, if_neg h43]; exact hC) | (rw [g_moves, if_pos h43, if_neg h53]; exact hC)⟩, hK⟩
def g_man (nm : Nat) (κ : cS) (k f j : Nat) (w : Int32) : Int32 × Nat × cS := if q_can k (κ.1.2.1 6 j) = true then (if nm < 10 then (nI nm, nm + 1, cs (cgr (g_join (g_man1 κ nm (nI k) w (nI f) (nI j)) nm) f) 12 (nI (nm + 1))) else (-3, nm, κ)) else (-2, nm, κ)
theorem man_I0 {nf nj nm f j k : Nat} {κ : cS} {w : Int32} (h : cI0 nf nj nm κ) (hf : f < nf) (hj : j < nj) (hk : k < 3) (hn : nm < 10) : cI0 nf nj (nm + 1) (cs (g_man1 κ nm (nI k) w (nI f) (nI j)) 12 (nI (nm + 1))) := by
  have hb := h.1
  refine ⟨by omega, ⟨h.2.1.1, h.2.1.2.1, rfl⟩, fun x hx => ?_, fun x hx => ?_, fun x hx => ?_⟩
  · show ∃ i, i < nf ∧ upd (κ.1.2.1 15) nm (nI f) x = nI i
    by_cases e : x = nm
    · exact ⟨f, hf, by simp [upd, e]⟩
    · obtain ⟨i, h1, h2⟩ := h.2.2.1 x (by omega)
      exact ⟨i, h1, by simp [upd, e, h2]⟩
  · show ∃ i, i < nj ∧ upd (κ.1.2.1 16) nm (nI j) x = nI i
    by_cases e : x = nm
    · exact ⟨j, hj, by simp [upd, e]⟩
    · obtain ⟨i, h1, h2⟩ := h.2.2.2.1 x (by omega)
      exact ⟨i, h1, by simp [upd, e, h2]⟩
  · show ∃ i, i < 3 ∧ upd (κ.1.2.1 13) nm (nI k) x = nI i
    by_cases e : x = nm
    · exact ⟨k, hk, by simp [upd, e]⟩
    · obtain ⟨i, h1, h2⟩ := h.2.2.2.2 x (by omega)
      exact ⟨i, h1, by simp [upd, e, h2]⟩
set_option maxRecDepth 100000 in
set_option maxHeartbeats 4000000 in
theorem c_man {l : Launch} {g : ab_G} {M : ab_M} {α : Nat → Nat → Nat} {nf nj nm : Nat} {κ : cS} (hC : CC g M α nf nj nm κ) (hI : cI nf nj nm κ) {kk w ff jj : Int32} : AM l g Y_X8_man 6 128 3 33 [.ref (α 0 0), .int kk, .int w, .int ff, .int jj] M (ab_Qi (fun x M' => ((((q_in kk 0 2 && q_in w 1 40) = false ∨ q_isF κ.1 ff = false ∨ q_isJ κ.1 jj = false) ∧ x = -1 ∧ CC g M' α nf nj nm κ) ∨ ∃ k f j, k < 3 ∧ f < nf ∧ j < nj ∧ kk = nI k ∧ ff = nI f ∧ jj = nI j ∧ (q_in kk 0 2 && q_in w 1 40) = true ∧ q_isF κ.1 ff = true ∧ q_isJ κ.1 jj = true ∧ x = (g_man nm κ k f j w).1 ∧ ∃ β, β 0 0 = α 0 0 ∧ CC g M' β nf nj (g_man nm κ k f j w).2.1 (g_man nm κ k f j w).2.2) ∧ KH M M')) := by
  refine AM.of [some (.ref (α 0 0)), some (.int kk), some (.int w), some (.int ff), some (.int jj), none, none, none, none] (by decide +kernel) (Nat.le_of_ble_eq_true rfl) rfl ?_
  have hb := hI.1
  have hK : KH M M := KT.rf
  have hF := hI
  replace hI := hI.z
  refine aw_aload_n dX8_man_0 rfl ?_
  refine aw_iload_n dX8_man_1 rfl ?_
  refine aw_V1q (kc' := 3) (ks' := 33) dX8_man_2 cs_X8_87_9 hC.1 (w_fountainAt hC) rfl (Nat.le_of_ble_eq_true rfl) (fun x2 M2 h2 => ?_)
  obtain ⟨rfl, e2⟩ := h2
  replace e2 := e2.symm
  subst e2
  rcases at_F hI (α 10) ff with ⟨e2, q2⟩ | ⟨f, hf, rfl, e2, q2⟩
  · rw [e2]
    refine aw_astoreN dX8_man_5 rfl (by decide) ?_
    refine aw_aload_n dX8_man_7 rfl ?_
    refine aw_iload dX8_man_8 rfl ?_
    refine aw_V1q (kc' := 3) (ks' := 33) dX8_man_10 cs_X8_80_9 hC.1 (w_jarAt hC) rfl (Nat.le_of_ble_eq_true rfl) (fun x10 M10 h10 => ?_)
    obtain ⟨rfl, e10⟩ := h10
    replace e10 := e10.symm
    subst e10
    rcases at_J hI (α 13) jj with ⟨e10, q10⟩ | ⟨j, hj, rfl, e10, q10⟩
    · rw [e10]
      refine aw_astoreN dX8_man_13 rfl (by decide) ?_
      refine aw_iload_n dX8_man_15 rfl ?_
      refine aw_iconst (v := 0) dX8_man_16 (by decide) ?_
      refine aw_iconst (v := 2) dX8_man_17 (by decide) ?_
      refine aw_S3i (kc' := 3) (ks' := 33) dX8_man_18 cs_X8_54 c_outside rfl (Nat.le_of_ble_eq_true rfl) (fun x18 M18 h18 => ?_)
      obtain ⟨rfl, e18⟩ := h18
      replace e18 := e18.symm
      subst e18
      rw [q_out_in]
      refine aw_if_ne (tgt := 34) dX8_man_21 (by decide) (fun h21 => ?_) (fun h21 => ?_)
      · replace h21 := b2i_n.mp h21
        simp at h21
        refine aw_iconst (v := -1) dX8_man_34 (by decide) ?_
        exact aw_iret dX8_man_35 rfl ⟨Or.inl ⟨Or.inl (by first | (rw [h31]; simp; done) | (rw [h21]; rfl)), rfl, hC⟩, hK⟩
      · replace h21 := b2i_0.mp h21
        simp at h21
        refine aw_iload_n dX8_man_24 rfl ?_
        refine aw_iconst (v := 1) dX8_man_25 (by decide) ?_
        refine aw_bipush (v := 40) dX8_man_26 (by decide) ?_
        refine aw_S3i (kc' := 3) (ks' := 33) dX8_man_28 cs_X8_54 c_outside rfl (Nat.le_of_ble_eq_true rfl) (fun x28 M28 h28 => ?_)
        obtain ⟨rfl, e28⟩ := h28
        replace e28 := e28.symm
        subst e28
        rw [q_out_in]
        refine aw_if_eq (tgt := 36) dX8_man_31 (by decide) (fun h31 => ?_) (fun h31 => ?_)
        · replace h31 := b2i_0.mp h31
          simp at h31
          refine aw_aloadN dX8_man_36 rfl ?_
          refine aw_ifnullN (tgt := 46) dX8_man_38 (by decide) ?_
          refine aw_iconst (v := -1) dX8_man_46 (by decide) ?_
          exact aw_iret dX8_man_47 rfl ⟨Or.inl ⟨by first | exact Or.inr (Or.inl q2) | exact Or.inr (Or.inr q10), rfl, hC⟩, hK⟩
        · replace h31 := b2i_n.mp h31
          simp at h31
          refine aw_iconst (v := -1) dX8_man_34 (by decide) ?_
          exact aw_iret dX8_man_35 rfl ⟨Or.inl ⟨Or.inl (by first | (rw [h31]; simp; done) | (rw [h21]; rfl)), rfl, hC⟩, hK⟩
    · rw [e10]
      have cj := nI_cl (n := j) (by omega)
      refine aw_astore dX8_man_13 rfl (by decide) ?_
      refine aw_iload_n dX8_man_15 rfl ?_
      refine aw_iconst (v := 0) dX8_man_16 (by decide) ?_
      refine aw_iconst (v := 2) dX8_man_17 (by decide) ?_
      refine aw_S3i (kc' := 3) (ks' := 33) dX8_man_18 cs_X8_54 c_outside rfl (Nat.le_of_ble_eq_true rfl) (fun x18 M18 h18 => ?_)
      obtain ⟨rfl, e18⟩ := h18
      replace e18 := e18.symm
      subst e18
      rw [q_out_in]
      refine aw_if_ne (tgt := 34) dX8_man_21 (by decide) (fun h21 => ?_) (fun h21 => ?_)
      · replace h21 := b2i_n.mp h21
        simp at h21
        refine aw_iconst (v := -1) dX8_man_34 (by decide) ?_
        exact aw_iret dX8_man_35 rfl ⟨Or.inl ⟨Or.inl (by first | (rw [h31]; simp; done) | (rw [h21]; rfl)), rfl, hC⟩, hK⟩
      · replace h21 := b2i_0.mp h21
        simp at h21
        refine aw_iload_n dX8_man_24 rfl ?_
        refine aw_iconst (v := 1) dX8_man_25 (by decide) ?_
        refine aw_bipush (v := 40) dX8_man_26 (by decide) ?_
        refine aw_S3i (kc' := 3) (ks' := 33) dX8_man_28 cs_X8_54 c_outside rfl (Nat.le_of_ble_eq_true rfl) (fun x28 M28 h28 => ?_)
        obtain ⟨rfl, e28⟩ := h28
        replace e28 := e28.symm
        subst e28
        rw [q_out_in]
        refine aw_if_eq (tgt := 36) dX8_man_31 (by decide) (fun h31 => ?_) (fun h31 => ?_)
        · replace h31 := b2i_0.mp h31
          simp at h31
          refine aw_aloadN dX8_man_36 rfl ?_
          refine aw_ifnullN (tgt := 46) dX8_man_38 (by decide) ?_
          refine aw_iconst (v := -1) dX8_man_46 (by decide) ?_
          exact aw_iret dX8_man_47 rfl ⟨Or.inl ⟨by first | exact Or.inr (Or.inl q2) | exact Or.inr (Or.inr q10), rfl, hC⟩, hK⟩
        · replace h31 := b2i_n.mp h31
          simp at h31
          refine aw_iconst (v := -1) dX8_man_34 (by decide) ?_
          exact aw_iret dX8_man_35 rfl ⟨Or.inl ⟨Or.inl (by first | (rw [h31]; simp; done) | (rw [h21]; rfl)), rfl, hC⟩, hK⟩
  · rw [e2]
    have cf := nI_cl (n := f) (by omega)
    refine aw_astore dX8_man_5 rfl (by decide) ?_
    refine aw_aload_n dX8_man_7 rfl ?_
    refine aw_iload dX8_man_8 rfl ?_
    refine aw_V1q (kc' := 3) (ks' := 33) dX8_man_10 cs_X8_80_9 hC.1 (w_jarAt hC) rfl (Nat.le_of_ble_eq_true rfl) (fun x10 M10 h10 => ?_)
    obtain ⟨rfl, e10⟩ := h10
    replace e10 := e10.symm
    subst e10
    rcases at_J hI (α 13) jj with ⟨e10, q10⟩ | ⟨j, hj, rfl, e10, q10⟩
    · rw [e10]
      refine aw_astoreN dX8_man_13 rfl (by decide) ?_
      refine aw_iload_n dX8_man_15 rfl ?_
      refine aw_iconst (v := 0) dX8_man_16 (by decide) ?_
      refine aw_iconst (v := 2) dX8_man_17 (by decide) ?_
      refine aw_S3i (kc' := 3) (ks' := 33) dX8_man_18 cs_X8_54 c_outside rfl (Nat.le_of_ble_eq_true rfl) (fun x18 M18 h18 => ?_)
      obtain ⟨rfl, e18⟩ := h18
      replace e18 := e18.symm
      subst e18
      rw [q_out_in]
      refine aw_if_ne (tgt := 34) dX8_man_21 (by decide) (fun h21 => ?_) (fun h21 => ?_)
      · replace h21 := b2i_n.mp h21
        simp at h21
        refine aw_iconst (v := -1) dX8_man_34 (by decide) ?_
        exact aw_iret dX8_man_35 rfl ⟨Or.inl ⟨Or.inl (by first | (rw [h31]; simp; done) | (rw [h21]; rfl)), rfl, hC⟩, hK⟩
      · replace h21 := b2i_0.mp h21
        simp at h21
        refine aw_iload_n dX8_man_24 rfl ?_
        refine aw_iconst (v := 1) dX8_man_25 (by decide) ?_
        refine aw_bipush (v := 40) dX8_man_26 (by decide) ?_
        refine aw_S3i (kc' := 3) (ks' := 33) dX8_man_28 cs_X8_54 c_outside rfl (Nat.le_of_ble_eq_true rfl) (fun x28 M28 h28 => ?_)
        obtain ⟨rfl, e28⟩ := h28
        replace e28 := e28.symm
        subst e28
        rw [q_out_in]
        refine aw_if_eq (tgt := 36) dX8_man_31 (by decide) (fun h31 => ?_) (fun h31 => ?_)
        · replace h31 := b2i_0.mp h31
          simp at h31
          refine aw_aload dX8_man_36 rfl ?_
          refine aw_ifnull dX8_man_38 ?_
          refine aw_aloadN dX8_man_41 rfl ?_
          refine aw_ifnonnullN dX8_man_43 ?_
          refine aw_iconst (v := -1) dX8_man_46 (by decide) ?_
          exact aw_iret dX8_man_47 rfl ⟨Or.inl ⟨by first | exact Or.inr (Or.inl q2) | exact Or.inr (Or.inr q10), rfl, hC⟩, hK⟩
        · replace h31 := b2i_n.mp h31
          simp at h31
          refine aw_iconst (v := -1) dX8_man_34 (by decide) ?_
          exact aw_iret dX8_man_35 rfl ⟨Or.inl ⟨Or.inl (by first | (rw [h31]; simp; done) | (rw [h21]; rfl)), rfl, hC⟩, hK⟩
    · rw [e10]
      have cj := nI_cl (n := j) (by omega)
      refine aw_astore dX8_man_13 rfl (by decide) ?_
      refine aw_iload_n dX8_man_15 rfl ?_
      refine aw_iconst (v := 0) dX8_man_16 (by decide) ?_
      refine aw_iconst (v := 2) dX8_man_17 (by decide) ?_
      refine aw_S3i (kc' := 3) (ks' := 33) dX8_man_18 cs_X8_54 c_outside rfl (Nat.le_of_ble_eq_true rfl) (fun x18 M18 h18 => ?_)
      obtain ⟨rfl, e18⟩ := h18
      replace e18 := e18.symm
      subst e18
      rw [q_out_in]
      refine aw_if_ne (tgt := 34) dX8_man_21 (by decide) (fun h21 => ?_) (fun h21 => ?_)
      · replace h21 := b2i_n.mp h21
        simp at h21
        refine aw_iconst (v := -1) dX8_man_34 (by decide) ?_
        exact aw_iret dX8_man_35 rfl ⟨Or.inl ⟨Or.inl (by first | (rw [h31]; simp; done) | (rw [h21]; rfl)), rfl, hC⟩, hK⟩
      · replace h21 := b2i_0.mp h21
        simp at h21
        refine aw_iload_n dX8_man_24 rfl ?_
        refine aw_iconst (v := 1) dX8_man_25 (by decide) ?_
        refine aw_bipush (v := 40) dX8_man_26 (by decide) ?_
        refine aw_S3i (kc' := 3) (ks' := 33) dX8_man_28 cs_X8_54 c_outside rfl (Nat.le_of_ble_eq_true rfl) (fun x28 M28 h28 => ?_)
        obtain ⟨rfl, e28⟩ := h28
        replace e28 := e28.symm
        subst e28
        rw [q_out_in]
        refine aw_if_eq (tgt := 36) dX8_man_31 (by decide) (fun h31 => ?_) (fun h31 => ?_)
        · replace h31 := b2i_0.mp h31
          simp at h31
          refine aw_aload dX8_man_36 rfl ?_
          refine aw_ifnull dX8_man_38 ?_
          refine aw_aload dX8_man_41 rfl ?_
          refine aw_ifnonnull (tgt := 48) dX8_man_43 (by decide) ?_
          obtain ⟨k, hk2, rfl⟩ := in_nat (b := 2) h21 (by decide) (by decide) (by decide)
          have hk3 : k < 3 := by omega
          refine aw_aload_n dX8_man_48 rfl ?_
          refine aw_get dX8_man_49 fg_X8_19_9 hC.1 rfl ?_
          obtain ⟨u52, v52, s52⟩ := szM hC
          refine aw_V0i (kc' := 3) (ks' := 33) dX8_man_52 cs_X8_62_0 s52 (j_size s52) rfl (Nat.le_of_ble_eq_true rfl) (fun x52 M52 h52 => ?_)
          obtain ⟨rfl, e52⟩ := h52
          replace e52 := e52.symm
          subst e52
          refine aw_istore dX8_man_55 rfl (by decide) ?_
          refine aw_iload_n dX8_man_57 rfl ?_
          refine aw_iload dX8_man_58 rfl ?_
          refine aw_iload_n dX8_man_60 rfl ?_
          refine aw_aload dX8_man_61 rfl ?_
          refine aw_aload dX8_man_63 rfl ?_
          refine aw_S5r (kc' := 2) (ks' := 20) dX8_man_65 cs_X8_91 (w_newMan (15, nm) hk3) rfl (Nat.le_of_ble_eq_true rfl) (fun x65 M65 h65 => ?_)
          obtain ⟨hx65, hM⟩ := h65
          have hK0 := kt_no hx65 hM
          have hm65 : M65 x65 = some ((15, nm), mC k (nI nm) w (α 10 f) (α 13 j) 0 0 0 0 0 (-1) (-1) (-1) 2) := by rw [hM]; exact ab_set_self
          have hC0 := hC
          replace hC : CC g M65 α nf nj nm κ := ⟨hC.1.kp hK0 (fun _ => id), hC.2.1.kp hK0 (fun _ => id) (fun _ => id), hC.2.2.1.kp hK0 (fun _ => id) (fun _ => id), hC.2.2.2.1.kp hK0 (fun _ => id) (fun _ => id), hC.2.2.2.2.1.kp hK0 (fun _ => id), hC.2.2.2.2.2.1.kp hK0 (fun _ => id), hC.2.2.2.2.2.2.1.kp hK0 (fun _ => id) (fun _ => id), hC.2.2.2.2.2.2.2.1.kp hK0 (fun _ => id), hC.2.2.2.2.2.2.2.2.1.kp hK0 (fun _ => id) (fun _ => id), hC.2.2.2.2.2.2.2.2.2.kp hK0 (fun _ => id) (fun _ => id)⟩
          replace hK : KH M M65 := hK0.wid (fun t h => h.elim)
          refine aw_astore dX8_man_68 rfl (by decide) ?_
          refine aw_aload dX8_man_70 rfl ?_
          refine aw_aload dX8_man_72 rfl ?_
          obtain ⟨z, hz1, hz2, hz3⟩ := w_can (l := l) (g := g) (a := x65) hk3 (gJ hC hj)
          refine aw_V1i (kc' := 2) (ks' := 20) dX8_man_74 hz1 hm65 hz3 (by simp [ab_fit, hz2]) (Nat.le_of_ble_eq_true rfl) (fun x74 M74 h74 => ?_)
          obtain ⟨rfl, e74⟩ := h74
          replace e74 := e74.symm
          subst e74
          refine aw_if_ne (tgt := 83) dX8_man_77 (by decide) (fun h77 => ?_) (fun h77 => ?_)
          · replace h77 := b2i_n.mp h77
            refine aw_iload dX8_man_83 rfl ?_
            refine aw_bipush (v := 10) dX8_man_85 (by decide) ?_
            refine aw_icmp_lt (tgt := 93) dX8_man_87 (by decide) (fun h87 => ?_) (fun h87 => ?_)
            · have h87 : nm < 10 := by have h9 : nI nm < nI 10 := h87; rw [nI_ltI (by omega) (by omega)] at h9; exact h9
              refine aw_aload_n dX8_man_93 rfl ?_
              refine aw_get dX8_man_94 fg_X8_19_9 hC.1 rfl ?_
              refine aw_aload dX8_man_97 rfl ?_
              have hOm : aO M65 x65 (15, nm) := by
                unfold mC kci at hm65
                split at hm65
                · exact ⟨_, _, _, hm65, rfl, nc_1104⟩
                · split at hm65
                  · exact ⟨_, _, _, hm65, rfl, nc_1103⟩
                  · exact ⟨_, _, _, hm65, rfl, nc_1102⟩
              refine aw_addA (kc' := 1) (ks' := 10) dX8_man_99 cs_X8_71_0 (by decide) hC.2.2.2.2.2.2.2.2.1.2.2 (by simp; omega) hOm (by simp) rfl (Nat.le_of_ble_eq_true rfl) (fun M99 h99 hK99 => ?_)
              have hC9 := cadd_man hC0 (fun i hi x hx => ((hF.V i hi).2 x hx).1) hk3 hf hj hb hx65 hM hK99 (Or.inl h99)
              have hI9 := man_I0 (w := w) hI hf hj hk3 h87
              replace hC9 : CC g M99 (up2 α 15 nm x65) nf nj (nm + 1) (cs (g_man1 κ nm (nI k) w (nI f) (nI j)) 12 (nI (nm + 1))) := hC9
              replace hK : KH M M99 := hK.tr (hK99.wid (fun t h => by rcases h with h | h <;> (rw [h]; show _ < 20; decide)))
              have e15a : (up2 α 15 nm x65) 15 nm = x65 := by simp [up2]
              have e00 : (up2 α 15 nm x65) 0 0 = α 0 0 := rfl
              have hf9 : (cs (g_man1 κ nm (nI k) w (nI f) (nI j)) 12 (nI (nm + 1))).1.2.1 15 nm = nI f := by show upd _ nm (nI f) nm = _; simp [upd]
              have hln : ((cs (g_man1 κ nm (nI k) w (nI f) (nI j)) 12 (nI (nm + 1))).2.1 ((cs (g_man1 κ nm (nI k) w (nI f) (nI j)) 12 (nI (nm + 1))).1.2.1 15 nm).toNatClampNeg).length < 10 := by
                rw [hf9, cf]
                have h9 := nodup_len nm (κ.2.1 f) (hF.V f hf).1 (fun x hx => ((hF.V f hf).2 x hx).1)
                exact (show (κ.2.1 f).length < 10 by omega)
              have hgm : g_man nm κ k f j w = (nI nm, nm + 1, cgr (g_join (cs (g_man1 κ nm (nI k) w (nI f) (nI j)) 12 (nI (nm + 1))) nm) f) := by
                rw [g_man, if_pos h77, if_pos h87]
                rfl
              generalize cs (g_man1 κ nm (nI k) w (nI f) (nI j)) 12 (nI (nm + 1)) = κ9 at hC9 hI9 hf9 hln hgm
              generalize up2 α 15 nm x65 = β at hC9 e15a e00
              clear hC
              have hC := hC9
              refine aw_pop dX8_man_102 rfl ?_
              refine aw_aload dX8_man_103 rfl ?_
              rw [← e15a]
              refine aw_V0v (kc' := 0) (ks' := 0) dX8_man_105 (csM_X8_101 _) (gM hC (show nm < nm + 1 by omega)) (c_joinRowA hC hI9 (show nm < nm + 1 by omega) hln) rfl (Nat.le_of_ble_eq_true rfl) (fun M105 h105 => ?_)
              obtain ⟨hC, hK9⟩ := h105
              replace hK := hK.tr hK9
              rw [hf9, cf] at hC
              refine aw_iload dX8_man_108 rfl ?_
              exact aw_iret dX8_man_110 rfl ⟨Or.inr ⟨k, f, j, by omega, hf, hj, rfl, rfl, rfl, by rw [h21, h31]; rfl, q2, q10, by rw [hgm], β, e00, by rw [hgm]; exact hC⟩, hK⟩
            · have h87 : ¬ nm < 10 := fun q => h87 (show nI nm < nI 10 from (nI_ltI (by omega) (by omega)).mpr q)
              refine aw_bipush (v := -3) dX8_man_90 (by decide) ?_
              exact aw_iret dX8_man_92 rfl ⟨Or.inr ⟨k, f, j, by omega, hf, hj, rfl, rfl, rfl, by rw [h21, h31]; rfl, q2, q10, by rw [g_man, if_pos h77, if_neg h87], α, rfl, by rw [g_man, if_pos h77, if_neg h87]; exact hC⟩, hK⟩
          · replace h77 := b2i_0.mp h77
            have h77 : ¬ q_can k (κ.1.2.1 6 j) = true := by rw [h77]; decide
            refine aw_bipush (v := -2) dX8_man_80 (by decide) ?_
            exact aw_iret dX8_man_82 rfl ⟨Or.inr ⟨k, f, j, by omega, hf, hj, rfl, rfl, rfl, by rw [h21, h31]; rfl, q2, q10, by rw [g_man, if_neg h77], α, rfl, by rw [g_man, if_neg h77]; exact hC⟩, hK⟩
        · replace h31 := b2i_n.mp h31
          simp at h31
          refine aw_iconst (v := -1) dX8_man_34 (by decide) ?_
          exact aw_iret dX8_man_35 rfl ⟨Or.inl ⟨Or.inl (by first | (rw [h31]; simp; done) | (rw [h21]; rfl)), rfl, hC⟩, hK⟩
