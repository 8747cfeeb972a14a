/-! ===== the class's minutes ===== -/
set_option maxRecDepth 100000 in
set_option maxHeartbeats 4000000 in
theorem c_fillNext {l : Launch} {g : ab_G} {M : ab_M} {α : Nat → Nat → Nat} {nf nj nm : Nat} {κ : cS} (hC : CC g M α nf nj nm κ) (hI : cI nf nj nm κ) {i : Nat} (hi : i < nf) : AM l g Y_X8_fillNext 5 108 0 0 [.ref (α 0 0), .ref (α 10 i)] M (ab_Qv (fun M' => CC g M' α nf nj nm (g_fill κ i) ∧ KH M M')) := by
  refine AM.of [some (.ref (α 0 0)), some (.ref (α 10 i)), none, none] (by decide +kernel) (Nat.le_of_ble_eq_true rfl) rfl ?_
  have hb := hI.1
  have hK : KH M M := KT.rf
  have hI0 := hI.z
  have hW : ∀ x ∈ κ.2.1 i, x < nm := fun x hx => ((hI.V i hi).2 x hx).1
  refine aw_aload_n dX8_fillNext_0 rfl ?_
  refine aw_get dX8_fillNext_1 fg_X8_130_3 (gF hC hi) rfl ?_
  refine aw_if_eq (tgt := 14) dX8_fillNext_4 (by decide) (fun h4 => ?_) (fun h4 => ?_)
  · refine aw_null dX8_fillNext_14 ?_
    refine aw_astore_nN dX8_fillNext_15 rfl (by decide) ?_
    show AW _ _ _ _ _ _ _ _ _ 16 _ _ _
    refine aw_aload_nN dX8_fillNext_16 rfl ?_
    refine aw_ifnonnullN dX8_fillNext_17 ?_
    exact aw_vret dX8_fillNext_20 rfl ⟨by first | (rw [g_fill, if_pos h4]; exact hC) | (rw [g_fill, if_neg h4, hq]; exact hC), hK⟩
  · refine aw_aload_n dX8_fillNext_7 rfl ?_
    refine aw_V0q (kc' := 0) (ks' := 0) dX8_fillNext_8 cs_X8_252_3 (gF hC hi) (c_nextToFill hC hI0 hi hW) rfl (Nat.le_of_ble_eq_true rfl) (fun x8 M8 h8 => ?_)
    obtain ⟨rfl, e8⟩ := h8
    replace e8 := e8.symm
    subst e8
    rcases hq : q_nx κ (κ.2.1 i) none with _ | m
    · show AW _ _ _ _ _ _ _ _ _ 11 _ _ _
      refine aw_goto (tgt := 15) dX8_fillNext_11 (by decide) ?_
      refine aw_astore_nN dX8_fillNext_15 rfl (by decide) ?_
      refine aw_aload_nN dX8_fillNext_16 rfl ?_
      refine aw_ifnonnullN dX8_fillNext_17 ?_
      exact aw_vret dX8_fillNext_20 rfl ⟨by first | (rw [g_fill, if_pos h4]; exact hC) | (rw [g_fill, if_neg h4, hq]; exact hC), hK⟩
    · have hm : m < nm := by
        rcases nx_mem _ _ _ hq with h | h
        · exact hW m h
        · cases h
      obtain ⟨fi, hfi, efi⟩ := hI.2.2.1 m hm
      show AW _ _ _ _ _ _ _ _ _ 11 _ _ _
      refine aw_goto (tgt := 15) dX8_fillNext_11 (by decide) ?_
      refine aw_astore_n dX8_fillNext_15 rfl (by decide) ?_
      refine aw_aload_n dX8_fillNext_16 rfl ?_
      refine aw_ifnonnull (tgt := 21) dX8_fillNext_17 (by decide) ?_
      refine aw_bipush (v := 10) dX8_fillNext_21 (by decide) ?_
      show AW _ _ _ _ _ _ _ _ _ 23 _ _ _
      refine aw_aload_n dX8_fillNext_23 rfl ?_
      refine aw_get dX8_fillNext_24 fg_X8_175_3 (gF hC hi) rfl ?_
      refine aw_aload_n dX8_fillNext_27 rfl ?_
      refine aw_get dX8_fillNext_28 (fM_X8_256 _) (gM hC hm) rfl ?_
      refine aw_aload_n dX8_fillNext_31 rfl ?_
      show AW _ _ _ _ _ _ _ _ _ 32 _ _ _
      refine aw_get dX8_fillNext_32 (fM_X8_155 _) (gM hC hm) rfl ?_
      refine aw_isub dX8_fillNext_35 ?_
      refine aw_S2i (kc' := 0) (ks' := 0) dX8_fillNext_36 cs_X8_259 j_min rfl (Nat.le_of_ble_eq_true rfl) (fun x36 M36 h36 => ?_)
      obtain ⟨rfl, e36⟩ := h36
      replace e36 := e36.symm
      subst e36
      refine aw_S2i (kc' := 0) (ks' := 0) dX8_fillNext_39 cs_X8_259 j_min rfl (Nat.le_of_ble_eq_true rfl) (fun x39 M39 h39 => ?_)
      obtain ⟨rfl, e39⟩ := h39
      replace e39 := e39.symm
      subst e39
      refine aw_istore_n dX8_fillNext_42 rfl (by decide) ?_
      show AW _ _ _ _ _ _ _ _ _ 43 _ _ _
      refine aw_aload_n dX8_fillNext_43 rfl ?_
      refine aw_dup dX8_fillNext_44 rfl ?_
      refine aw_get dX8_fillNext_45 fg_X8_175_3 (gF hC hi) rfl ?_
      refine aw_iload_n dX8_fillNext_48 rfl ?_
      refine aw_isub dX8_fillNext_49 ?_
      show AW _ _ _ _ _ _ _ _ _ 50 _ _ _
      refine cw_pF4 dX8_fillNext_50 fl_X8_175_3 hC hi hK (fun M hC hK => ?_)
      refine aw_aload_n dX8_fillNext_53 rfl ?_
      refine aw_dup dX8_fillNext_54 rfl ?_
      refine aw_get dX8_fillNext_55 (fM_X8_155 _) (gM hC hm) rfl ?_
      refine aw_iload_n dX8_fillNext_58 rfl ?_
      show AW _ _ _ _ _ _ _ _ _ 59 _ _ _
      refine aw_iadd dX8_fillNext_59 ?_
      refine cw_pM7 dX8_fillNext_60 (pM_X8_155 _) hC hm hK (fun M hC hK => ?_)
      refine aw_aload_n dX8_fillNext_63 rfl ?_
      refine aw_get dX8_fillNext_64 fg_X8_43_9 hC.1 rfl ?_
      refine aw_iconst (v := 2) dX8_fillNext_67 (by decide) ?_
      show AW _ _ _ _ _ _ _ _ _ 68 _ _ _
      refine aw_dup2 dX8_fillNext_68 rfl rfl ?_
      refine aw_lald dX8_fillNext_69 hC.2.2.2.2.1 (by first | assumption | (unfold vp_in; decide)) ?_
      refine aw_iload_n dX8_fillNext_70 rfl ?_
      refine aw_i2l dX8_fillNext_71 ?_
      refine aw_ladd dX8_fillNext_72 ?_
      show AW _ _ _ _ _ _ _ _ _ 73 _ _ _
      refine cw_s_sums dX8_fillNext_73 (by unfold vp_in; decide) hC hK (fun M hC hK => ?_)
      refine aw_iload_n dX8_fillNext_74 rfl ?_
      refine aw_if_le (tgt := 94) dX8_fillNext_75 (by decide) (fun h75 => ?_) (fun h75 => ?_)
      · replace hC : CC g M α nf nj nm (g_fill2 (g_fill1 κ i m (q_fvC κ i m)) i m (q_fvC κ i m)) := by rw [g_fill2, if_pos (show  q_fvC κ i m ≤ 0 from h75)]; exact hC
        have hz2 : cI nf nj nm (g_fill2 (g_fill1 κ i m (q_fvC κ i m)) i m (q_fvC κ i m)) := by
          have hz1 : cI nf nj nm (g_fill1 κ i m (q_fvC κ i m)) := hI
          unfold g_fill2
          split
          · exact hz1
          · exact hz1
        have hgf : g_fill κ i = g_fill3 (g_fill2 (g_fill1 κ i m (q_fvC κ i m)) i m (q_fvC κ i m)) m := by rw [g_fill, if_neg h4, hq]
        generalize g_fill2 (g_fill1 κ i m (q_fvC κ i m)) i m (q_fvC κ i m) = υ at hC hz2 hgf
        refine aw_aload_n dX8_fillNext_94 rfl ?_
        refine aw_get dX8_fillNext_95 (fM_X8_155 _) (gM hC hm) rfl ?_
        show AW _ _ _ _ _ _ _ _ _ 98 _ _ _
        refine aw_aload_n dX8_fillNext_98 rfl ?_
        refine aw_get dX8_fillNext_99 (fM_X8_256 _) (gM hC hm) rfl ?_
        refine aw_icmp_lt (tgt := 117) dX8_fillNext_102 (by decide) (fun h102 => ?_) (fun h102 => ?_)
        · exact aw_vret dX8_fillNext_117 rfl ⟨by rw [hgf]; first | (rw [g_fill3, if_pos h102]; exact hC) | (rw [g_fill3, if_neg h102]; exact hC), hK⟩
        · refine aw_aload_n dX8_fillNext_105 rfl ?_
          show AW _ _ _ _ _ _ _ _ _ 106 _ _ _
          refine aw_V0v (kc' := 0) (ks' := 0) dX8_fillNext_106 (csM_X8_119 _) (gM hC hm) (c_leaveRow hC hz2.z hm (fun x hx => ((hz2.V _ (by obtain ⟨f9, h9, e9⟩ := hz2.2.2.1 m hm; rw [e9, nI_cl (by omega)]; exact h9)).2 x hx).1)) rfl (Nat.le_of_ble_eq_true rfl) (fun M106 h106 => ?_)
          obtain ⟨hC, hK9⟩ := h106
          replace hK := hK.tr hK9
          refine aw_aload_n dX8_fillNext_109 rfl ?_
          refine aw_aload_n dX8_fillNext_110 rfl ?_
          refine aw_get dX8_fillNext_111 fg_X8_47_9 hC.1 rfl ?_
          refine aw_V1v (kc' := 0) (ks' := 0) dX8_fillNext_114 (csM_X8_268 _) (gM hC hm) (c_goUp hC (cI_leave hz2).z hm) rfl (Nat.le_of_ble_eq_true rfl) (fun M114 h114 => ?_)
          obtain ⟨hC, hK9⟩ := h114
          replace hK := hK.tr hK9
          show AW _ _ _ _ _ _ _ _ _ 117 _ _ _
          exact aw_vret dX8_fillNext_117 rfl ⟨by rw [hgf]; first | (rw [g_fill3, if_pos h102]; exact hC) | (rw [g_fill3, if_neg h102]; exact hC), hK⟩
      · refine aw_aload_n dX8_fillNext_78 rfl ?_
        refine aw_aload_n dX8_fillNext_79 rfl ?_
        refine aw_get dX8_fillNext_80 fg_X8_161_3 (gF hC hi) rfl ?_
        refine cw_pM10 dX8_fillNext_83 (pM_X8_262 _) hC hm hK (fun M hC hK => ?_)
        show AW _ _ _ _ _ _ _ _ _ 86 _ _ _
        refine aw_aload_n dX8_fillNext_86 rfl ?_
        refine aw_aload_n dX8_fillNext_87 rfl ?_
        refine aw_get dX8_fillNext_88 fg_X8_47_9 hC.1 rfl ?_
        refine cw_pM11 dX8_fillNext_91 (pM_X8_265 _) hC hm hK (fun M hC hK => ?_)
        replace hC : CC g M α nf nj nm (g_fill2 (g_fill1 κ i m (q_fvC κ i m)) i m (q_fvC κ i m)) := by rw [g_fill2, if_neg (show ¬ q_fvC κ i m ≤ 0 from h75)]; exact hC
        have hz2 : cI nf nj nm (g_fill2 (g_fill1 κ i m (q_fvC κ i m)) i m (q_fvC κ i m)) := by
          have hz1 : cI nf nj nm (g_fill1 κ i m (q_fvC κ i m)) := hI
          unfold g_fill2
          split
          · exact hz1
          · exact hz1
        have hgf : g_fill κ i = g_fill3 (g_fill2 (g_fill1 κ i m (q_fvC κ i m)) i m (q_fvC κ i m)) m := by rw [g_fill, if_neg h4, hq]
        generalize g_fill2 (g_fill1 κ i m (q_fvC κ i m)) i m (q_fvC κ i m) = υ at hC hz2 hgf
        refine aw_aload_n dX8_fillNext_94 rfl ?_
        show AW _ _ _ _ _ _ _ _ _ 95 _ _ _
        refine aw_get dX8_fillNext_95 (fM_X8_155 _) (gM hC hm) rfl ?_
        refine aw_aload_n dX8_fillNext_98 rfl ?_
        refine aw_get dX8_fillNext_99 (fM_X8_256 _) (gM hC hm) rfl ?_
        refine aw_icmp_lt (tgt := 117) dX8_fillNext_102 (by decide) (fun h102 => ?_) (fun h102 => ?_)
        · exact aw_vret dX8_fillNext_117 rfl ⟨by rw [hgf]; first | (rw [g_fill3, if_pos h102]; exact hC) | (rw [g_fill3, if_neg h102]; exact hC), hK⟩
        · show AW _ _ _ _ _ _ _ _ _ 105 _ _ _
          refine aw_aload_n dX8_fillNext_105 rfl ?_
          refine aw_V0v (kc' := 0) (ks' := 0) dX8_fillNext_106 (csM_X8_119 _) (gM hC hm) (c_leaveRow hC hz2.z hm (fun x hx => ((hz2.V _ (by obtain ⟨f9, h9, e9⟩ := hz2.2.2.1 m hm; rw [e9, nI_cl (by omega)]; exact h9)).2 x hx).1)) rfl (Nat.le_of_ble_eq_true rfl) (fun M106 h106 => ?_)
          obtain ⟨hC, hK9⟩ := h106
          replace hK := hK.tr hK9
          refine aw_aload_n dX8_fillNext_109 rfl ?_
          refine aw_aload_n dX8_fillNext_110 rfl ?_
          refine aw_get dX8_fillNext_111 fg_X8_47_9 hC.1 rfl ?_
          show AW _ _ _ _ _ _ _ _ _ 114 _ _ _
          refine aw_V1v (kc' := 0) (ks' := 0) dX8_fillNext_114 (csM_X8_268 _) (gM hC hm) (c_goUp hC (cI_leave hz2).z hm) rfl (Nat.le_of_ble_eq_true rfl) (fun M114 h114 => ?_)
          obtain ⟨hC, hK9⟩ := h114
          replace hK := hK.tr hK9
          exact aw_vret dX8_fillNext_117 rfl ⟨by rw [hgf]; first | (rw [g_fill3, if_pos h102]; exact hC) | (rw [g_fill3, if_neg h102]; exact hC), hK⟩
set_option maxRecDepth 100000 in
set_option maxHeartbeats 4000000 in
theorem c_walk {l : Launch} {g : ab_G} {M : ab_M} {α : Nat → Nat → Nat} {nf nj nm : Nat} {κ : cS} (hC : CC g M α nf nj nm κ) (hI : cI nf nj nm κ) {m : Nat} (hm : m < nm) : AM l g Y_X8_walk 6 128 0 0 [.ref (α 0 0), .ref (α 15 m)] M (ab_Qv (fun M' => CC g M' α nf nj nm (g_walk κ m) ∧ KH M M')) := by
  refine AM.of [some (.ref (α 0 0)), some (.ref (α 15 m))] (by decide +kernel) (Nat.le_of_ble_eq_true rfl) rfl ?_
  have hb := hI.1
  have hK : KH M M := KT.rf
  obtain ⟨fi, hfi, efi⟩ := hI.2.2.1 m hm
  have c1 := nI_cl (n := fi) (by have := hI.1; omega)
  refine aw_aload_n dX8_walk_0 rfl ?_
  refine aw_get dX8_walk_1 (fM_X8_116 _) (gM hC hm) rfl ?_
  refine aw_if_eq (tgt := 18) dX8_walk_4 (by decide) (fun h4 => ?_) (fun h4 => ?_)
  · exact aw_vret dX8_walk_18 rfl ⟨by first | (rw [g_walk, if_pos (Or.inl h4)]; exact hC) | (rw [g_walk, if_pos (Or.inr h15)]; exact hC), hK⟩
  · refine aw_aload_n dX8_walk_7 rfl ?_
    show AW _ _ _ _ _ _ _ _ _ 8 _ _ _
    refine aw_get dX8_walk_8 (fM_X8_272 _) (gM hC hm) rfl ?_
    refine aw_aload_n dX8_walk_11 rfl ?_
    refine aw_get dX8_walk_12 fg_X8_47_9 hC.1 rfl ?_
    refine aw_icmp_ne (tgt := 19) dX8_walk_15 (by decide) (fun h15 => ?_) (fun h15 => ?_)
    · refine aw_aload_n dX8_walk_19 rfl ?_
      show AW _ _ _ _ _ _ _ _ _ 20 _ _ _
      refine aw_dup dX8_walk_20 rfl ?_
      refine aw_get dX8_walk_21 (fM_X8_152 _) (gM hC hm) rfl ?_
      refine aw_iconst (v := 1) dX8_walk_24 (by decide) ?_
      refine aw_isub dX8_walk_25 ?_
      refine cw_pM6 dX8_walk_26 (pM_X8_152 _) hC hm hK (fun M hC hK => ?_)
      have hz1 : cI nf nj nm (cp κ 20 m (κ.1.2.1 20 m - 1)) := hI
      have hd1 : ¬ (cp κ 20 m (κ.1.2.1 20 m - 1)).1.2.1 19 m = 0 := h4
      have ef1 : (cp κ 20 m (κ.1.2.1 20 m - 1)).1.2.1 15 m = nI fi := efi
      have hgw : g_walk κ m = g_walk1 (cp κ 20 m (κ.1.2.1 20 m - 1)) m := by rw [g_walk, if_neg (fun q => q.elim h4 h15)]
      generalize cp κ 20 m (κ.1.2.1 20 m - 1) = τ at hC hz1 hd1 hgw ef1
      show AW _ _ _ _ _ _ _ _ _ 29 _ _ _
      refine aw_aload_n dX8_walk_29 rfl ?_
      refine aw_get dX8_walk_30 (fM_X8_152 _) (gM hC hm) rfl ?_
      refine aw_if_le (tgt := 37) dX8_walk_33 (by decide) (fun h33 => ?_) (fun h33 => ?_)
      · refine aw_aload_n dX8_walk_37 rfl ?_
        refine aw_get dX8_walk_38 (fM_X8_116 _) (gM hC hm) rfl ?_
        show AW _ _ _ _ _ _ _ _ _ 41 _ _ _
        refine aw_iconst (v := 1) dX8_walk_41 (by decide) ?_
        refine aw_icmp_ne (tgt := 57) dX8_walk_42 (by decide) (fun h42 => ?_) (fun h42 => ?_)
        · refine aw_aload_n dX8_walk_57 rfl ?_
          refine aw_V0v (kc' := 0) (ks' := 0) dX8_walk_58 (csM_X8_101 _) (gM hC hm) (c_joinRow hC hz1.z hm (hz1.2.2.2.2.2.2.2.2.1 m hm _ (by rw [ef1, c1]; exact hfi) (by rw [ef1, c1])) (by rw [ef1, c1]; exact row_len hz1 hm hfi (does_no hz1 hd1 fi hfi))) rfl (Nat.le_of_ble_eq_true rfl) (fun M58 h58 => ?_)
          obtain ⟨hC, hK9⟩ := h58
          replace hK := hK.tr hK9
          exact aw_vret dX8_walk_61 rfl ⟨by rw [hgw, g_walk1, if_pos h33]; first | (rw [if_pos h38]; exact hC) | (rw [if_neg h38]; exact hC) | (rw [if_pos h42]; exact hC) | (rw [if_neg h42]; exact hC), hK⟩
        · show AW _ _ _ _ _ _ _ _ _ 45 _ _ _
          refine aw_aload_n dX8_walk_45 rfl ?_
          refine aw_aload_n dX8_walk_46 rfl ?_
          obtain ⟨q, hq1, hq⟩ := hz1.2.2.2.2.2.2.2.1
          refine aw_V1v (kc' := 0) (ks' := 0) dX8_walk_47 cs_X8_275_9 hC.1 (c_pour hC hz1.z hm hq hq1) rfl (Nat.le_of_ble_eq_true rfl) (fun M47 h47 => ?_)
          obtain ⟨hC, hK9⟩ := h47
          replace hK := hK.tr hK9
          refine aw_aload_n dX8_walk_50 rfl ?_
          refine aw_V0v (kc' := 0) (ks' := 0) dX8_walk_51 (csM_X8_191 _) (gM hC hm) (c_goDown hC (cI_pour hz1).z hm) rfl (Nat.le_of_ble_eq_true rfl) (fun M51 h51 => ?_)
          obtain ⟨hC, hK9⟩ := h51
          replace hK := hK.tr hK9
          show AW _ _ _ _ _ _ _ _ _ 54 _ _ _
          refine aw_goto (tgt := 61) dX8_walk_54 (by decide) ?_
          exact aw_vret dX8_walk_61 rfl ⟨by rw [hgw, g_walk1, if_pos h33]; first | (rw [if_pos h38]; exact hC) | (rw [if_neg h38]; exact hC) | (rw [if_pos h42]; exact hC) | (rw [if_neg h42]; exact hC), hK⟩
      · exact aw_vret dX8_walk_36 rfl ⟨by rw [hgw, g_walk1, if_neg h33]; exact hC, hK⟩
    · exact aw_vret dX8_walk_18 rfl ⟨by first | (rw [g_walk, if_pos (Or.inl h4)]; exact hC) | (rw [g_walk, if_pos (Or.inr h15)]; exact hC), hK⟩
def k_cflow (i : Nat) (κ : cS) : cS := g_flow κ i
def k_cfill (i : Nat) (κ : cS) : cS := g_fill κ i
def k_cwalk (i : Nat) (κ : cS) : cS := g_walk κ i
def k_cdrink (i : Nat) (κ : cS) : cS := g_drink κ i
def n_4 (nf nj nm : Nat) (κ : cS) : cS := cs (lp k_cdrink 0 nj κ) 28 ((lp k_cdrink 0 nj κ).1.1 28 + 1)
def n_3 (nf nj nm : Nat) (κ : cS) : cS := n_4 nf nj nm (lp k_cwalk 0 nm κ)
def n_2 (nf nj nm : Nat) (κ : cS) : cS := n_3 nf nj nm (lp k_cfill 0 nf κ)
def n_1 (nf nj nm : Nat) (κ : cS) : cS := n_2 nf nj nm (lp k_cflow 0 nf κ)
theorem c_drinkC {l : Launch} {g : ab_G} {M : ab_M} {α : Nat → Nat → Nat} {nf nj nm : Nat} {κ : cS} (hC : CC g M α nf nj nm κ) {j : Nat} (hj : j < nj) : AM l g Y_X4_drinkOnce 1 21 0 0 [.ref (α 13 j)] M (ab_Qi (fun x M' => x = q_dvC κ j ∧ M' = ab_set M (α 13 j) (13, j) (.inr (5, [.int (nI j), .int (κ.1.2.1 6 j), .int (κ.1.2.1 7 j), .ref (α 14 j), .int (κ.1.2.1 9 j - q_dvC κ j), .int (κ.1.2.1 10 j), .int (κ.1.2.1 11 j + q_dvC κ j)])))) := c_drinkOnce (gJ hC hj)
theorem cput_drink {g : ab_G} {M : ab_M} {α : Nat → Nat → Nat} {nf nj nm : Nat} {κ : cS} (hC : CC g M α nf nj nm κ) {j : Nat} (hj : j < nj) {v w : Int32} : CC g (ab_set M (α 13 j) (13, j) (.inr (5, [.int (nI j), .int (κ.1.2.1 6 j), .int (κ.1.2.1 7 j), .ref (α 14 j), .int v, .int (κ.1.2.1 10 j), .int w]))) α nf nj nm (cp (cp κ 9 j v) 11 j w) := by
  have h2 := cput_J6 (cput_J4 hC hj v) hj w
  rw [ab_set_set] at h2
  have e : (cp κ 9 j v).1.2.1 9 j = v := by show upd _ _ _ _ = _; simp [upd]
  rw [e] at h2
  exact h2
set_option maxRecDepth 100000 in
set_option maxHeartbeats 4000000 in
theorem cm_4 {l : Launch} {g : ab_G} {M : ab_M} {α : Nat → Nat → Nat} {nf nj nm : Nat} {κ : cS} (hI : cI nf nj nm κ) {M9 : ab_M} (hC : CC g M9 α nf nj nm κ) (hK : KH M M9) (z1 : Option Value) : AW l g ab_X0 (ab_Z g (ab_Qv (fun M' => CC g M' α nf nj nm (n_4 nf nj nm κ) ∧ KH M M'))) Y_X8_passMinute 7 149 0 0 102 [some (.ref (α 0 0)), z1] [] M9 := by
  refine aw_iconst (v := 0) dX8_passMinute_102 (by decide) ?_
  refine aw_istore_n dX8_passMinute_103 rfl (by decide) ?_
  refine gl (fun s M9 => CC g M9 α nf nj nm s ∧ KH M M9) (fun i s M9 => AW l g ab_X0 (ab_Z g (ab_Qv (fun M' => CC g M' α nf nj nm (n_4 nf nj nm κ) ∧ KH M M'))) Y_X8_passMinute 7 149 0 0 104 [some (.ref (α 0 0)), some (.int (nI i))] [] M9) k_cdrink (fun i s => cI nf nj nm s) nj (fun i s hi h => cI_drink h) ?_ nj 0 κ M9 (Nat.zero_add _) hI ⟨hC, hK⟩ ?_
  · clear hC hK
    intro i s M9 hi hI hp kk
    obtain ⟨hC, hK⟩ := hp
    have hb := hI.1
    have kk : ∀ (M8 : ab_M) (s9 : cS), s9 = k_cdrink i s → CC g M8 α nf nj nm s9 → KH M M8 → AW l g ab_X0 (ab_Z g (ab_Qv (fun M' => CC g M' α nf nj nm (n_4 nf nj nm κ) ∧ KH M M'))) Y_X8_passMinute 7 149 0 0 104 [some (.ref (α 0 0)), some (.int (nI (i + 1)))] [] M8 := fun M8 s9 e9 hC hK => by subst e9; exact kk M8 ⟨hC, hK⟩ ((fun h => cI_drink h) hI)
    refine aw_iload_n dX8_passMinute_104 rfl ?_
    refine aw_aload_n dX8_passMinute_105 rfl ?_
    refine aw_get dX8_passMinute_106 fg_X8_16_9 hC.1 rfl ?_
    obtain ⟨u109, v109, s109⟩ := szJ hC
    refine aw_V0i (kc' := 0) (ks' := 0) dX8_passMinute_109 cs_X8_62_0 s109 (j_size s109) rfl (Nat.le_of_ble_eq_true rfl) (fun x109 M109 h109 => ?_)
    obtain ⟨rfl, e109⟩ := h109
    replace e109 := e109.symm
    subst e109
    refine aw_icmp_ge (tgt := 145) dX8_passMinute_112 (by decide) (fun h112 => absurd (nI_lt hi (by omega)) (Int32.not_lt.mpr h112)) (fun h112 => ?_)
    refine aw_aload_n dX8_passMinute_115 rfl ?_
    refine aw_get dX8_passMinute_116 fg_X8_43_9 hC.1 rfl ?_
    refine aw_iconst (v := 4) dX8_passMinute_119 (by decide) ?_
    refine aw_dup2 dX8_passMinute_120 rfl rfl ?_
    refine aw_lald dX8_passMinute_121 hC.2.2.2.2.1 (by unfold vp_in; decide) ?_
    refine aw_aload_n dX8_passMinute_122 rfl ?_
    refine aw_get dX8_passMinute_123 fg_X8_16_9 hC.1 rfl ?_
    refine aw_iload_n dX8_passMinute_126 rfl ?_
    obtain ⟨u127, v127, s127⟩ := szJ hC
    refine aw_V1r (kc' := 0) (ks' := 0) dX8_passMinute_127 cs_X8_187_0 s127 (w_getJ hC hi) rfl (Nat.le_of_ble_eq_true rfl) (fun x127 M127 h127 => ?_)
    obtain ⟨rfl, e127⟩ := h127
    replace e127 := e127.symm
    subst e127
    refine aw_castS dX8_passMinute_130 tw_295 (gJ hC hi) rfl ?_
    refine aw_V0i (kc' := 0) (ks' := 0) dX8_passMinute_133 cs_X8_241_5 (gJ hC hi) (c_drinkC hC hi) rfl (Nat.le_of_ble_eq_true rfl) (fun x133 M133 h133 => ?_)
    obtain ⟨rfl, e133⟩ := h133
    replace hK := hK.put (gJ hC hi) (show 13 < 20 by decide) (e := .inr (5, [.int (nI i), .int (s.1.2.1 6 i), .int (s.1.2.1 7 i), .ref (α 14 i), .int (s.1.2.1 9 i - q_dvC s i), .int (s.1.2.1 10 i), .int (s.1.2.1 11 i + q_dvC s i)]))
    replace hC := cput_drink hC hi (v := s.1.2.1 9 i - q_dvC s i) (w := s.1.2.1 11 i + q_dvC s i)
    rw [← e133] at hC hK
    refine aw_i2l dX8_passMinute_136 ?_
    refine aw_ladd dX8_passMinute_137 ?_
    refine cw_s_sums dX8_passMinute_138 (by unfold vp_in; decide) hC hK (fun M hC hK => ?_)
    refine aw_iinc dX8_passMinute_139 rfl (ii_1 i) rfl (by decide) ?_
    refine aw_goto (tgt := 104) dX8_passMinute_142 (by decide) ?_
    exact kk _ _ rfl hC hK
  · clear hC hK
    intro M9 hp hI
    obtain ⟨hC, hK⟩ := hp
    generalize hs : lp k_cdrink 0 nj κ = s at *
    refine aw_iload_n dX8_passMinute_104 rfl ?_
    refine aw_aload_n dX8_passMinute_105 rfl ?_
    refine aw_get dX8_passMinute_106 fg_X8_16_9 hC.1 rfl ?_
    obtain ⟨u109, v109, s109⟩ := szJ hC
    refine aw_V0i (kc' := 0) (ks' := 0) dX8_passMinute_109 cs_X8_62_0 s109 (j_size s109) rfl (Nat.le_of_ble_eq_true rfl) (fun x109 M109 h109 => ?_)
    obtain ⟨rfl, e109⟩ := h109
    replace e109 := e109.symm
    subst e109
    refine aw_icmp_ge (tgt := 145) dX8_passMinute_112 (by decide) (fun h112 => ?_) (fun h112 => absurd (Int32.le_refl _) h112)
    refine aw_aload_n dX8_passMinute_145 rfl ?_
    refine aw_dup dX8_passMinute_146 rfl ?_
    refine aw_get dX8_passMinute_147 fg_X8_47_9 hC.1 rfl ?_
    refine aw_iconst (v := 1) dX8_passMinute_150 (by decide) ?_
    refine aw_iadd dX8_passMinute_151 ?_
    refine cw_pW7 dX8_passMinute_152 fl_X8_47_9 hC hK (fun M hC hK => ?_)
    exact aw_vret dX8_passMinute_155 rfl ⟨by rw [n_4, hs]; exact hC, hK⟩
set_option maxRecDepth 100000 in
set_option maxHeartbeats 4000000 in
theorem cm_3 {l : Launch} {g : ab_G} {M : ab_M} {α : Nat → Nat → Nat} {nf nj nm : Nat} {κ : cS} (hI : cI nf nj nm κ) {M9 : ab_M} (hC : CC g M9 α nf nj nm κ) (hK : KH M M9) (z1 : Option Value) : AW l g ab_X0 (ab_Z g (ab_Qv (fun M' => CC g M' α nf nj nm (n_3 nf nj nm κ) ∧ KH M M'))) Y_X8_passMinute 7 149 0 0 68 [some (.ref (α 0 0)), z1] [] M9 := by
  refine aw_iconst (v := 0) dX8_passMinute_68 (by decide) ?_
  refine aw_istore_n dX8_passMinute_69 rfl (by decide) ?_
  refine gl (fun s M9 => CC g M9 α nf nj nm s ∧ KH M M9) (fun i s M9 => AW l g ab_X0 (ab_Z g (ab_Qv (fun M' => CC g M' α nf nj nm (n_3 nf nj nm κ) ∧ KH M M'))) Y_X8_passMinute 7 149 0 0 70 [some (.ref (α 0 0)), some (.int (nI i))] [] M9) k_cwalk (fun i s => cI nf nj nm s) nm (fun i s hi h => cI_walk h hi) ?_ nm 0 κ M9 (Nat.zero_add _) hI ⟨hC, hK⟩ ?_
  · clear hC hK
    intro i s M9 hi hI hp kk
    obtain ⟨hC, hK⟩ := hp
    have hb := hI.1
    have kk : ∀ (M8 : ab_M) (s9 : cS), s9 = k_cwalk i s → CC g M8 α nf nj nm s9 → KH M M8 → AW l g ab_X0 (ab_Z g (ab_Qv (fun M' => CC g M' α nf nj nm (n_3 nf nj nm κ) ∧ KH M M'))) Y_X8_passMinute 7 149 0 0 70 [some (.ref (α 0 0)), some (.int (nI (i + 1)))] [] M8 := fun M8 s9 e9 hC hK => by subst e9; exact kk M8 ⟨hC, hK⟩ ((fun h => cI_walk h hi) hI)
    refine aw_iload_n dX8_passMinute_70 rfl ?_
    refine aw_aload_n dX8_passMinute_71 rfl ?_
    refine aw_get dX8_passMinute_72 fg_X8_19_9 hC.1 rfl ?_
    obtain ⟨u75, v75, s75⟩ := szM hC
    refine aw_V0i (kc' := 0) (ks' := 0) dX8_passMinute_75 cs_X8_62_0 s75 (j_size s75) rfl (Nat.le_of_ble_eq_true rfl) (fun x75 M75 h75 => ?_)
    obtain ⟨rfl, e75⟩ := h75
    replace e75 := e75.symm
    subst e75
    refine aw_icmp_ge (tgt := 102) dX8_passMinute_78 (by decide) (fun h78 => absurd (nI_lt hi (by omega)) (Int32.not_lt.mpr h78)) (fun h78 => ?_)
    refine aw_aload_n dX8_passMinute_81 rfl ?_
    refine aw_aload_n dX8_passMinute_82 rfl ?_
    refine aw_get dX8_passMinute_83 fg_X8_19_9 hC.1 rfl ?_
    refine aw_iload_n dX8_passMinute_86 rfl ?_
    obtain ⟨u87, v87, s87⟩ := szM hC
    refine aw_V1r (kc' := 0) (ks' := 0) dX8_passMinute_87 cs_X8_187_0 s87 (w_getM hC hi) rfl (Nat.le_of_ble_eq_true rfl) (fun x87 M87 h87 => ?_)
    obtain ⟨rfl, e87⟩ := h87
    replace e87 := e87.symm
    subst e87
    refine aw_castMan dX8_passMinute_90 tw_449 (cMan hC hi) ?_
    refine aw_V1v (kc' := 0) (ks' := 0) dX8_passMinute_93 cs_X8_237_9 hC.1 (c_walk hC hI hi) rfl (Nat.le_of_ble_eq_true rfl) (fun M93 h93 => ?_)
    obtain ⟨hC, hK9⟩ := h93
    replace hK := hK.tr hK9
    refine aw_iinc dX8_passMinute_96 rfl (ii_1 i) rfl (by decide) ?_
    refine aw_goto (tgt := 70) dX8_passMinute_99 (by decide) ?_
    exact kk _ _ rfl hC hK
  · clear hC hK
    intro M9 hp hI
    obtain ⟨hC, hK⟩ := hp
    generalize hs : lp k_cwalk 0 nm κ = s at *
    refine aw_iload_n dX8_passMinute_70 rfl ?_
    refine aw_aload_n dX8_passMinute_71 rfl ?_
    refine aw_get dX8_passMinute_72 fg_X8_19_9 hC.1 rfl ?_
    obtain ⟨u75, v75, s75⟩ := szM hC
    refine aw_V0i (kc' := 0) (ks' := 0) dX8_passMinute_75 cs_X8_62_0 s75 (j_size s75) rfl (Nat.le_of_ble_eq_true rfl) (fun x75 M75 h75 => ?_)
    obtain ⟨rfl, e75⟩ := h75
    replace e75 := e75.symm
    subst e75
    refine aw_icmp_ge (tgt := 102) dX8_passMinute_78 (by decide) (fun h78 => ?_) (fun h78 => absurd (Int32.le_refl _) h78)
    exact (show n_3 nf nj nm κ = n_4 nf nj nm s by rw [n_3, hs]) ▸ cm_4 hI hC hK _
set_option maxRecDepth 100000 in
set_option maxHeartbeats 4000000 in
theorem cm_2 {l : Launch} {g : ab_G} {M : ab_M} {α : Nat → Nat → Nat} {nf nj nm : Nat} {κ : cS} (hI : cI nf nj nm κ) {M9 : ab_M} (hC : CC g M9 α nf nj nm κ) (hK : KH M M9) (z1 : Option Value) : AW l g ab_X0 (ab_Z g (ab_Qv (fun M' => CC g M' α nf nj nm (n_2 nf nj nm κ) ∧ KH M M'))) Y_X8_passMinute 7 149 0 0 34 [some (.ref (α 0 0)), z1] [] M9 := by
  refine aw_iconst (v := 0) dX8_passMinute_34 (by decide) ?_
  refine aw_istore_n dX8_passMinute_35 rfl (by decide) ?_
  refine gl (fun s M9 => CC g M9 α nf nj nm s ∧ KH M M9) (fun i s M9 => AW l g ab_X0 (ab_Z g (ab_Qv (fun M' => CC g M' α nf nj nm (n_2 nf nj nm κ) ∧ KH M M'))) Y_X8_passMinute 7 149 0 0 36 [some (.ref (α 0 0)), some (.int (nI i))] [] M9) k_cfill (fun i s => cI nf nj nm s) nf (fun i s hi h => cI_fill h) ?_ nf 0 κ M9 (Nat.zero_add _) hI ⟨hC, hK⟩ ?_
  · clear hC hK
    intro i s M9 hi hI hp kk
    obtain ⟨hC, hK⟩ := hp
    have hb := hI.1
    have kk : ∀ (M8 : ab_M) (s9 : cS), s9 = k_cfill i s → CC g M8 α nf nj nm s9 → KH M M8 → AW l g ab_X0 (ab_Z g (ab_Qv (fun M' => CC g M' α nf nj nm (n_2 nf nj nm κ) ∧ KH M M'))) Y_X8_passMinute 7 149 0 0 36 [some (.ref (α 0 0)), some (.int (nI (i + 1)))] [] M8 := fun M8 s9 e9 hC hK => by subst e9; exact kk M8 ⟨hC, hK⟩ ((fun h => cI_fill h) hI)
    refine aw_iload_n dX8_passMinute_36 rfl ?_
    refine aw_aload_n dX8_passMinute_37 rfl ?_
    refine aw_get dX8_passMinute_38 fg_X8_10_9 hC.1 rfl ?_
    obtain ⟨u41, v41, s41⟩ := szF hC
    refine aw_V0i (kc' := 0) (ks' := 0) dX8_passMinute_41 cs_X8_62_0 s41 (j_size s41) rfl (Nat.le_of_ble_eq_true rfl) (fun x41 M41 h41 => ?_)
    obtain ⟨rfl, e41⟩ := h41
    replace e41 := e41.symm
    subst e41
    refine aw_icmp_ge (tgt := 68) dX8_passMinute_44 (by decide) (fun h44 => absurd (nI_lt hi (by omega)) (Int32.not_lt.mpr h44)) (fun h44 => ?_)
    refine aw_aload_n dX8_passMinute_47 rfl ?_
    refine aw_aload_n dX8_passMinute_48 rfl ?_
    refine aw_get dX8_passMinute_49 fg_X8_10_9 hC.1 rfl ?_
    refine aw_iload_n dX8_passMinute_52 rfl ?_
    obtain ⟨u53, v53, s53⟩ := szF hC
    refine aw_V1r (kc' := 0) (ks' := 0) dX8_passMinute_53 cs_X8_187_0 s53 (w_getF hC hi) rfl (Nat.le_of_ble_eq_true rfl) (fun x53 M53 h53 => ?_)
    obtain ⟨rfl, e53⟩ := h53
    replace e53 := e53.symm
    subst e53
    refine aw_castS dX8_passMinute_56 tw_199 (gF hC hi) rfl ?_
    refine aw_V1v (kc' := 0) (ks' := 0) dX8_passMinute_59 cs_X8_234_9 hC.1 (c_fillNext hC hI hi) rfl (Nat.le_of_ble_eq_true rfl) (fun M59 h59 => ?_)
    obtain ⟨hC, hK9⟩ := h59
    replace hK := hK.tr hK9
    refine aw_iinc dX8_passMinute_62 rfl (ii_1 i) rfl (by decide) ?_
    refine aw_goto (tgt := 36) dX8_passMinute_65 (by decide) ?_
    exact kk _ _ rfl hC hK
  · clear hC hK
    intro M9 hp hI
    obtain ⟨hC, hK⟩ := hp
    generalize hs : lp k_cfill 0 nf κ = s at *
    refine aw_iload_n dX8_passMinute_36 rfl ?_
    refine aw_aload_n dX8_passMinute_37 rfl ?_
    refine aw_get dX8_passMinute_38 fg_X8_10_9 hC.1 rfl ?_
    obtain ⟨u41, v41, s41⟩ := szF hC
    refine aw_V0i (kc' := 0) (ks' := 0) dX8_passMinute_41 cs_X8_62_0 s41 (j_size s41) rfl (Nat.le_of_ble_eq_true rfl) (fun x41 M41 h41 => ?_)
    obtain ⟨rfl, e41⟩ := h41
    replace e41 := e41.symm
    subst e41
    refine aw_icmp_ge (tgt := 68) dX8_passMinute_44 (by decide) (fun h44 => ?_) (fun h44 => absurd (Int32.le_refl _) h44)
    exact (show n_2 nf nj nm κ = n_3 nf nj nm s by rw [n_2, hs]) ▸ cm_3 hI hC hK _
set_option maxRecDepth 100000 in
set_option maxHeartbeats 4000000 in
theorem cm_1 {l : Launch} {g : ab_G} {M : ab_M} {α : Nat → Nat → Nat} {nf nj nm : Nat} {κ : cS} (hI : cI nf nj nm κ) {M9 : ab_M} (hC : CC g M9 α nf nj nm κ) (hK : KH M M9) (z1 : Option Value) : AW l g ab_X0 (ab_Z g (ab_Qv (fun M' => CC g M' α nf nj nm (n_1 nf nj nm κ) ∧ KH M M'))) Y_X8_passMinute 7 149 0 0 0 [some (.ref (α 0 0)), z1] [] M9 := by
  refine aw_iconst (v := 0) dX8_passMinute_0 (by decide) ?_
  refine aw_istore_n dX8_passMinute_1 rfl (by decide) ?_
  refine gl (fun s M9 => CC g M9 α nf nj nm s ∧ KH M M9) (fun i s M9 => AW l g ab_X0 (ab_Z g (ab_Qv (fun M' => CC g M' α nf nj nm (n_1 nf nj nm κ) ∧ KH M M'))) Y_X8_passMinute 7 149 0 0 2 [some (.ref (α 0 0)), some (.int (nI i))] [] M9) k_cflow (fun i s => cI nf nj nm s) nf (fun i s hi h => cI_flow h) ?_ nf 0 κ M9 (Nat.zero_add _) hI ⟨hC, hK⟩ ?_
  · clear hC hK
    intro i s M9 hi hI hp kk
    obtain ⟨hC, hK⟩ := hp
    have hb := hI.1
    have kk : ∀ (M8 : ab_M) (s9 : cS), s9 = k_cflow i s → CC g M8 α nf nj nm s9 → KH M M8 → AW l g ab_X0 (ab_Z g (ab_Qv (fun M' => CC g M' α nf nj nm (n_1 nf nj nm κ) ∧ KH M M'))) Y_X8_passMinute 7 149 0 0 2 [some (.ref (α 0 0)), some (.int (nI (i + 1)))] [] M8 := fun M8 s9 e9 hC hK => by subst e9; exact kk M8 ⟨hC, hK⟩ ((fun h => cI_flow h) hI)
    refine aw_iload_n dX8_passMinute_2 rfl ?_
    refine aw_aload_n dX8_passMinute_3 rfl ?_
    refine aw_get dX8_passMinute_4 fg_X8_10_9 hC.1 rfl ?_
    obtain ⟨u7, v7, s7⟩ := szF hC
    refine aw_V0i (kc' := 0) (ks' := 0) dX8_passMinute_7 cs_X8_62_0 s7 (j_size s7) rfl (Nat.le_of_ble_eq_true rfl) (fun x7 M7 h7 => ?_)
    obtain ⟨rfl, e7⟩ := h7
    replace e7 := e7.symm
    subst e7
    refine aw_icmp_ge (tgt := 34) dX8_passMinute_10 (by decide) (fun h10 => absurd (nI_lt hi (by omega)) (Int32.not_lt.mpr h10)) (fun h10 => ?_)
    refine aw_aload_n dX8_passMinute_13 rfl ?_
    refine aw_aload_n dX8_passMinute_14 rfl ?_
    refine aw_get dX8_passMinute_15 fg_X8_10_9 hC.1 rfl ?_
    refine aw_iload_n dX8_passMinute_18 rfl ?_
    obtain ⟨u19, v19, s19⟩ := szF hC
    refine aw_V1r (kc' := 0) (ks' := 0) dX8_passMinute_19 cs_X8_187_0 s19 (w_getF hC hi) rfl (Nat.le_of_ble_eq_true rfl) (fun x19 M19 h19 => ?_)
    obtain ⟨rfl, e19⟩ := h19
    replace e19 := e19.symm
    subst e19
    refine aw_castS dX8_passMinute_22 tw_199 (gF hC hi) rfl ?_
    refine aw_V1v (kc' := 0) (ks' := 0) dX8_passMinute_25 cs_X8_230_9 hC.1 (c_letFlow hC hI.z hi) rfl (Nat.le_of_ble_eq_true rfl) (fun M25 h25 => ?_)
    obtain ⟨hC, hK9⟩ := h25
    replace hK := hK.tr hK9
    refine aw_iinc dX8_passMinute_28 rfl (ii_1 i) rfl (by decide) ?_
    refine aw_goto (tgt := 2) dX8_passMinute_31 (by decide) ?_
    exact kk _ _ rfl hC hK
  · clear hC hK
    intro M9 hp hI
    obtain ⟨hC, hK⟩ := hp
    generalize hs : lp k_cflow 0 nf κ = s at *
    refine aw_iload_n dX8_passMinute_2 rfl ?_
    refine aw_aload_n dX8_passMinute_3 rfl ?_
    refine aw_get dX8_passMinute_4 fg_X8_10_9 hC.1 rfl ?_
    obtain ⟨u7, v7, s7⟩ := szF hC
    refine aw_V0i (kc' := 0) (ks' := 0) dX8_passMinute_7 cs_X8_62_0 s7 (j_size s7) rfl (Nat.le_of_ble_eq_true rfl) (fun x7 M7 h7 => ?_)
    obtain ⟨rfl, e7⟩ := h7
    replace e7 := e7.symm
    subst e7
    refine aw_icmp_ge (tgt := 34) dX8_passMinute_10 (by decide) (fun h10 => ?_) (fun h10 => absurd (Int32.le_refl _) h10)
    exact (show n_1 nf nj nm κ = n_2 nf nj nm s by rw [n_1, hs]) ▸ cm_2 hI hC hK _
set_option maxRecDepth 100000 in
set_option maxHeartbeats 4000000 in
theorem c_passMinute {l : Launch} {g : ab_G} {M : ab_M} {α : Nat → Nat → Nat} {nf nj nm : Nat} {κ : cS} (hC : CC g M α nf nj nm κ) (hI : cI nf nj nm κ) : AM l g Y_X8_passMinute 7 149 0 0 [.ref (α 0 0)] M (ab_Qv (fun M' => CC g M' α nf nj nm (n_1 nf nj nm κ) ∧ KH M M')) := by
  refine AM.of [some (.ref (α 0 0)), none] (by decide +kernel) (Nat.le_of_ble_eq_true rfl) rfl ?_
  exact cm_1 hI hC KT.rf none
def k_cmin (nf nj nm : Nat) (_ : Nat) (κ : cS) : cS := n_1 nf nj nm κ
def g_run (nf nj nm : Nat) (κ : cS) (n : Int32) : Int32 × cS := if q_in n 1 500 = true then (if κ.1.1 28 + n ≤ 20000 then ((lp (k_cmin nf nj nm) 0 n.toNatClampNeg κ).1.1 28, lp (k_cmin nf nj nm) 0 n.toNatClampNeg κ) else (-3, κ)) else (-1, κ)
theorem cI_lp {nf nj nm : Nat} {φ : Nat → cS → cS} {N : Nat} (h : ∀ i κ, i < N → cI nf nj nm κ → cI nf nj nm (φ i κ)) {κ : cS} (h0 : cI nf nj nm κ) : cI nf nj nm (lp φ 0 N κ) := by
  have := lp_inv (φ := φ) (fun _ s => cI nf nj nm s) N 0 κ h0 (fun j s _ h2 h3 => h j s (by omega) h3)
  exact this
theorem cI_minute {nf nj nm : Nat} {κ : cS} (h : cI nf nj nm κ) : cI nf nj nm (n_1 nf nj nm κ) := by
  unfold n_1 n_2 n_3 n_4
  have h1 : cI nf nj nm (lp k_cflow 0 nf κ) := cI_lp (fun i s _ q => cI_flow q) h
  generalize lp k_cflow 0 nf κ = a at h1
  have h2 : cI nf nj nm (lp k_cfill 0 nf a) := cI_lp (fun i s _ q => cI_fill q) h1
  generalize lp k_cfill 0 nf a = b at h2
  have h3 : cI nf nj nm (lp k_cwalk 0 nm b) := cI_lp (fun i s hi q => cI_walk q hi) h2
  generalize lp k_cwalk 0 nm b = c at h3
  have h4 : cI nf nj nm (lp k_cdrink 0 nj c) := cI_lp (fun i s _ q => cI_drink q) h3
  generalize lp k_cdrink 0 nj c = d at h4
  exact h4
set_option maxRecDepth 100000 in
set_option maxHeartbeats 4000000 in
theorem c_run {l : Launch} {g : ab_G} {Mb : ab_M} {α : Nat → Nat → Nat} {nf nj nm : Nat} {κ : cS} (hC : CC g Mb α nf nj nm κ) (hI : cI nf nj nm κ) {n : Int32} : AM l g Y_X8_run 8 170 0 0 [.ref (α 0 0), .int n] Mb (ab_Qi (fun x M' => x = (g_run nf nj nm κ n).1 ∧ CC g M' α nf nj nm (g_run nf nj nm κ n).2 ∧ KH Mb M')) := by
  refine AM.of [some (.ref (α 0 0)), some (.int n), none] (by decide +kernel) (Nat.le_of_ble_eq_true rfl) rfl ?_
  have hb := hI.1
  have hI0 := hI.z
  have hK : KH Mb Mb := KT.rf
  refine aw_iload_n dX8_run_0 rfl ?_
  refine aw_iconst (v := 1) dX8_run_1 (by decide) ?_
  refine aw_sipush (v := 500) dX8_run_2 (by decide) ?_
  refine aw_S3i (kc' := 0) (ks' := 0) dX8_run_5 cs_X8_54 c_outside rfl (Nat.le_of_ble_eq_true rfl) (fun x5 M5 h5 => ?_)
  obtain ⟨rfl, e5⟩ := h5
  replace e5 := e5.symm
  subst e5
  rw [q_out_in]
  refine aw_if_eq (tgt := 13) dX8_run_8 (by decide) (fun h8 => ?_) (fun h8 => ?_)
  · replace h8 := b2i_0.mp h8
    simp at h8
    obtain ⟨N, hN5, rfl⟩ := in_nat (b := 500) h8 (by decide) (by decide) (by decide)
    have cN := nI_cl (n := N) (by omega)
    refine aw_aload_n dX8_run_13 rfl ?_
    refine aw_get dX8_run_14 fg_X8_47_9 hC.1 rfl ?_
    refine aw_iload_n dX8_run_17 rfl ?_
    refine aw_iadd dX8_run_18 ?_
    refine aw_sipush (v := 20000) dX8_run_19 (by decide) ?_
    refine aw_icmp_le (tgt := 28) dX8_run_22 (by decide) (fun h22 => ?_) (fun h22 => ?_)
    · refine aw_iconst (v := 0) dX8_run_28 (by decide) ?_
      refine aw_istore_n dX8_run_29 rfl (by decide) ?_
      refine gl (fun s M9 => CC g M9 α nf nj nm s ∧ KH Mb M9) (fun i s M9 => AW l g ab_X0 (ab_Z g (ab_Qi (fun x M' => x = (g_run nf nj nm κ (nI N)).1 ∧ CC g M' α nf nj nm (g_run nf nj nm κ (nI N)).2 ∧ KH Mb M'))) Y_X8_run 8 170 0 0 30 [some (.ref (α 0 0)), some (.int (nI N)), some (.int (nI i))] [] M9) (k_cmin nf nj nm) (fun _ s => cI nf nj nm s) N (fun i s _ h => cI_minute h) ?_ N 0 κ _ (Nat.zero_add _) hI ⟨hC, hK⟩ ?_
      · clear hC hK
        intro i s M hi hI hp kk
        obtain ⟨hC, hK⟩ := hp
        have kk : ∀ (M8 : ab_M), CC g M8 α nf nj nm (n_1 nf nj nm s) → KH Mb M8 → AW l g ab_X0 (ab_Z g (ab_Qi (fun x M' => x = (g_run nf nj nm κ (nI N)).1 ∧ CC g M' α nf nj nm (g_run nf nj nm κ (nI N)).2 ∧ KH Mb M'))) Y_X8_run 8 170 0 0 30 [some (.ref (α 0 0)), some (.int (nI N)), some (.int (nI (i + 1)))] [] M8 := fun M8 hC hK => kk M8 ⟨hC, hK⟩ (cI_minute hI)
        refine aw_iload_n dX8_run_30 rfl ?_
        refine aw_iload_n dX8_run_31 rfl ?_
        refine aw_icmp_ge (tgt := 45) dX8_run_32 (by decide) (fun h32 => absurd (nI_lt hi (by omega)) (Int32.not_lt.mpr h32)) (fun h32 => ?_)
        refine aw_aload_n dX8_run_35 rfl ?_
        refine aw_V0v (kc' := 0) (ks' := 0) dX8_run_36 cs_X8_145_9 hC.1 (c_passMinute hC hI) rfl (Nat.le_of_ble_eq_true rfl) (fun M36 h36 => ?_)
        obtain ⟨hC, hK9⟩ := h36
        replace hK := hK.tr hK9
        refine aw_iinc dX8_run_39 rfl (ii_1 i) rfl (by decide) ?_
        refine aw_goto (tgt := 30) dX8_run_42 (by decide) ?_
        exact kk _ hC hK
      · clear hC hK
        intro M hp hI
        obtain ⟨hC, hK⟩ := hp
        generalize hs : lp (k_cmin nf nj nm) 0 N κ = s at *
        refine aw_iload_n dX8_run_30 rfl ?_
        refine aw_iload_n dX8_run_31 rfl ?_
        refine aw_icmp_ge (tgt := 45) dX8_run_32 (by decide) (fun h32 => ?_) (fun h32 => absurd (Int32.le_refl _) h32)
        refine aw_aload_n dX8_run_45 rfl ?_
        refine aw_get dX8_run_46 fg_X8_47_9 hC.1 rfl ?_
        exact aw_iret dX8_run_49 rfl ⟨by rw [g_run, if_pos h8, if_pos h22, cN, hs], by rw [g_run, if_pos h8, if_pos h22, cN, hs]; exact hC, hK⟩
    · refine aw_bipush (v := -3) dX8_run_25 (by decide) ?_
      exact aw_iret dX8_run_27 rfl (by refine ⟨?_, ?_, hK⟩ <;> first | (simp [g_run, *]; done) | (simp [g_run, *]; exact hC))
  · replace h8 := b2i_n.mp h8
    simp at h8
    refine aw_iconst (v := -1) dX8_run_11 (by decide) ?_
    exact aw_iret dX8_run_12 rfl (by refine ⟨?_, ?_, hK⟩ <;> first | (simp [g_run, *]; done) | (simp [g_run, *]; exact hC))
