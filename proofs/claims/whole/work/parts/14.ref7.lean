/-! ===== the reference's methods, 7 ===== -/
set_option maxRecDepth 100000 in
set_option maxHeartbeats 4000000 in
theorem rt_told {l : Launch} {g : ab_G} {M : ab_M} {a0 : Nat} {ρ : Nat → Nat} {σ : rS} (hR : RR g M a0 ρ σ) (hI : rI σ) {m w : Int32} (hm : vp_in m 10) {QQ : Int32 → ab_M → Prop} (hq : QQ (if rg σ 19 m = 0 then lp (k_ah σ m) 0 (σ.1 12).toNatClampNeg 0 else rg σ 20 m) M) : AW l g ab_X0 (ab_Z g (ab_Qi QQ)) Y_X9_told 2 43 0 0 67 [some (.ref a0), some (.int m), some (.int w), none, none] [] M := by
  obtain ⟨N, hN10, hN, hNc⟩ := rI_nm hI
  refine aw_iconst (v := 0) dX9_told_67 (by decide) ?_
  refine aw_istore_n dX9_told_68 rfl (by decide) ?_
  refine aw_iconst (v := 0) dX9_told_69 (by decide) ?_
  refine aw_istore dX9_told_70 rfl (by decide) ?_
  refine gl (fun _ M9 => M9 = M) (fun i s M9 => AW l g ab_X0 (ab_Z g (ab_Qi QQ)) Y_X9_told 2 43 0 0 72 [some (.ref a0), some (.int m), some (.int w), some (.int (s)), some (.int (nI i))] [] M9) (k_ah σ m) (fun _ _ => True) N (fun _ _ _ _ => trivial) ?_ N 0 0 M (Nat.zero_add _) trivial rfl ?_
  · intro i s M9 h1 _ hp kk
    subst hp
    have hi : vp_in (nI i) 10 := vp_in_nI (by omega) (by omega)
    have kk : ∀ s9 : Int32, s9 = k_ah σ m i s → AW l g ab_X0 (ab_Z g (ab_Qi QQ)) Y_X9_told 2 43 0 0 72 [some (.ref a0), some (.int m), some (.int w), some (.int (s9)), some (.int (nI (i + 1)))] [] M9 := fun s9 e9 => by rw [e9]; exact kk M9 rfl trivial
    refine aw_iload dX9_told_72 rfl ?_
    refine aw_aload_n dX9_told_74 rfl ?_
    refine aw_get dX9_told_75 fg_X9_126_10 hR.1 rfl ?_
    refine aw_icmp_ge (tgt := 131) dX9_told_78 (by decide) (fun h78 => absurd (show σ.1 12 ≤ nI i from h78) (by rw [hN]; exact nI_ge h1 (by omega))) (fun h78 => ?_)
    refine aw_iload_n dX9_told_81 rfl ?_
    refine aw_aload_n dX9_told_82 rfl ?_
    refine aw_get dX9_told_83 fg_X9_59_10 hR.1 rfl ?_
    refine aw_iload dX9_told_86 rfl ?_
    refine aw_iald dX9_told_88 (rr_19 hR) (by first | assumption | (unfold vp_in; decide)) ?_
    refine aw_if_ne (tgt := 122) dX9_told_89 (by decide) (fun h89 => ?_) (fun h89 => ?_)
    · refine aw_iconst (v := 0) dX9_told_122 (by decide) ?_
      refine aw_iadd dX9_told_123 ?_
      refine aw_istore_n dX9_told_124 rfl (by decide) ?_
      refine aw_iinc dX9_told_125 rfl (ii_1 i) rfl (by decide) ?_
      refine aw_goto (tgt := 72) dX9_told_128 (by decide) ?_
      exact kk _ (by unfold k_ah; simp_all [rg, b2i, -Int32.not_lt, -Int32.not_le])
    · refine aw_aload_n dX9_told_92 rfl ?_
      refine aw_get dX9_told_93 fg_X9_47_10 hR.1 rfl ?_
      refine aw_iload dX9_told_96 rfl ?_
      refine aw_iald dX9_told_98 (rr_15 hR) (by first | assumption | (unfold vp_in; decide)) ?_
      refine aw_aload_n dX9_told_99 rfl ?_
      refine aw_get dX9_told_100 fg_X9_47_10 hR.1 rfl ?_
      refine aw_iload_n dX9_told_103 rfl ?_
      refine aw_iald dX9_told_104 (rr_15 hR) (by first | assumption | (unfold vp_in; decide)) ?_
      refine aw_icmp_ne (tgt := 122) dX9_told_105 (by decide) (fun h105 => ?_) (fun h105 => ?_)
      · refine aw_iconst (v := 0) dX9_told_122 (by decide) ?_
        refine aw_iadd dX9_told_123 ?_
        refine aw_istore_n dX9_told_124 rfl (by decide) ?_
        refine aw_iinc dX9_told_125 rfl (ii_1 i) rfl (by decide) ?_
        refine aw_goto (tgt := 72) dX9_told_128 (by decide) ?_
        exact kk _ (by unfold k_ah; simp_all [rg, b2i, -Int32.not_lt, -Int32.not_le])
      · refine aw_aload_n dX9_told_108 rfl ?_
        refine aw_iload dX9_told_109 rfl ?_
        refine aw_iload_n dX9_told_111 rfl ?_
        refine aw_V2i (kc' := 0) (ks' := 0) dX9_told_112 cs_X9_172_10 hR.1 (r_isAhead hR hi hm) rfl (Nat.le_of_ble_eq_true rfl) (fun x112 M112 h112 => ?_)
        obtain ⟨rfl, e112⟩ := h112
        replace e112 := e112.symm
        subst e112
        refine aw_if_eq (tgt := 122) dX9_told_115 (by decide) (fun h115 => ?_) (fun h115 => ?_)
        · replace h115 := b2i_0.mp h115
          refine aw_iconst (v := 0) dX9_told_122 (by decide) ?_
          refine aw_iadd dX9_told_123 ?_
          refine aw_istore_n dX9_told_124 rfl (by decide) ?_
          refine aw_iinc dX9_told_125 rfl (ii_1 i) rfl (by decide) ?_
          refine aw_goto (tgt := 72) dX9_told_128 (by decide) ?_
          exact kk _ (by unfold k_ah; simp_all [rg, b2i, -Int32.not_lt, -Int32.not_le])
        · replace h115 := b2i_n.mp h115
          refine aw_iconst (v := 1) dX9_told_118 (by decide) ?_
          refine aw_goto (tgt := 123) dX9_told_119 (by decide) ?_
          refine aw_iadd dX9_told_123 ?_
          refine aw_istore_n dX9_told_124 rfl (by decide) ?_
          refine aw_iinc dX9_told_125 rfl (ii_1 i) rfl (by decide) ?_
          refine aw_goto (tgt := 72) dX9_told_128 (by decide) ?_
          exact kk _ (by unfold k_ah; simp_all [rg, b2i, -Int32.not_lt, -Int32.not_le])
  · intro M9 hp _
    subst hp
    rw [← hNc] at hN ⊢
    refine aw_iload dX9_told_72 rfl ?_
    refine aw_aload_n dX9_told_74 rfl ?_
    refine aw_get dX9_told_75 fg_X9_126_10 hR.1 rfl ?_
    refine aw_icmp_ge (tgt := 131) dX9_told_78 (by decide) (fun h78 => ?_) (fun h78 => absurd (show σ.1 12 ≤ nI _ by rw [← hN]; exact Int32.le_refl _) h78)
    refine aw_aload_n dX9_told_131 rfl ?_
    refine aw_get dX9_told_132 fg_X9_59_10 hR.1 rfl ?_
    refine aw_iload_n dX9_told_135 rfl ?_
    refine aw_iald dX9_told_136 (rr_19 hR) (by first | assumption | (unfold vp_in; decide)) ?_
    refine aw_if_ne (tgt := 144) dX9_told_137 (by decide) (fun h137 => ?_) (fun h137 => ?_)
    · refine aw_aload_n dX9_told_144 rfl ?_
      refine aw_get dX9_told_145 fg_X9_62_10 hR.1 rfl ?_
      refine aw_iload_n dX9_told_148 rfl ?_
      refine aw_iald dX9_told_149 (rr_20 hR) (by first | assumption | (unfold vp_in; decide)) ?_
      exact aw_iret dX9_told_150 rfl (by first | (rw [if_pos (show rg σ 19 m = 0 from h137)] at hq; exact hq) | (rw [if_neg (show ¬ rg σ 19 m = 0 from h137)] at hq; exact hq))
    · refine aw_iload_n dX9_told_140 rfl ?_
      refine aw_goto (tgt := 150) dX9_told_141 (by decide) ?_
      exact aw_iret dX9_told_150 rfl (by first | (rw [if_pos (show rg σ 19 m = 0 from h137)] at hq; exact hq) | (rw [if_neg (show ¬ rg σ 19 m = 0 from h137)] at hq; exact hq))
set_option maxRecDepth 100000 in
set_option maxHeartbeats 4000000 in
theorem r_told {l : Launch} {g : ab_G} {M : ab_M} {a0 : Nat} {ρ : Nat → Nat} {σ : rS} (hR : RR g M a0 ρ σ) (hI : rI σ) {m w : Int32} : AM l g Y_X9_told 2 43 0 0 [.ref a0, .int m, .int w] M (ab_Qi (fun x M' => x = f_told σ m w ∧ M' = M)) := by
  refine AM.of [some (.ref a0), some (.int m), some (.int w), none, none] (by decide +kernel) (Nat.le_of_ble_eq_true rfl) rfl ?_
  refine aw_aload_n dX9_told_0 rfl ?_
  refine aw_iload_n dX9_told_1 rfl ?_
  refine aw_V1i (kc' := 0) (ks' := 0) dX9_told_2 cs_X9_146_10 hR.1 (r_isMan hR) rfl (Nat.le_of_ble_eq_true rfl) (fun x2 M2 h2 => ?_)
  obtain ⟨rfl, e2⟩ := h2
  replace e2 := e2.symm
  subst e2
  refine aw_if_ne (tgt := 10) dX9_told_5 (by decide) (fun h5 => ?_) (fun h5 => ?_)
  · replace h5 := b2i_n.mp h5
    have hm := isM_in hI h5
    have hmi := isM_m hI h5
    have hj := rI_J hI hm
    refine aw_iload_n dX9_told_10 rfl ?_
    by_cases e0 : w = 0
    · refine aw_swAt 0 (off := 49) (tgt := 60) e0 dX9_told_11 (by decide) (by decide) (by decide) (by decide) ?_
      refine aw_aload_n dX9_told_60 rfl ?_
      refine aw_get dX9_told_61 fg_X9_59_10 hR.1 rfl ?_
      refine aw_iload_n dX9_told_64 rfl ?_
      refine aw_iald dX9_told_65 (rr_19 hR) (by first | assumption | (unfold vp_in; decide)) ?_
      exact aw_iret dX9_told_66 rfl ⟨by subst_vars; simp_all [f_told, rg], rfl⟩
    · by_cases e1 : w = 1
      · refine aw_swAt 1 (off := 56) (tgt := 67) e1 dX9_told_11 (by decide) (by decide) (by decide) (by decide) ?_
        exact rt_told hR hI hm ⟨by subst_vars; simp_all [f_told, rg], rfl⟩
      · by_cases e2 : w = 2
        · refine aw_swAt 2 (off := 140) (tgt := 151) e2 dX9_told_11 (by decide) (by decide) (by decide) (by decide) ?_
          refine aw_aload_n dX9_told_151 rfl ?_
          refine aw_get dX9_told_152 fg_X9_65_10 hR.1 rfl ?_
          refine aw_iload_n dX9_told_155 rfl ?_
          refine aw_iald dX9_told_156 (rr_21 hR) (by first | assumption | (unfold vp_in; decide)) ?_
          exact aw_iret dX9_told_157 rfl ⟨by subst_vars; simp_all [f_told, rg], rfl⟩
        · by_cases e3 : w = 3
          · refine aw_swAt 3 (off := 147) (tgt := 158) e3 dX9_told_11 (by decide) (by decide) (by decide) (by decide) ?_
            refine aw_aload_n dX9_told_158 rfl ?_
            refine aw_get dX9_told_159 fg_X9_68_10 hR.1 rfl ?_
            refine aw_iload_n dX9_told_162 rfl ?_
            refine aw_iald dX9_told_163 (rr_22 hR) (by first | assumption | (unfold vp_in; decide)) ?_
            exact aw_iret dX9_told_164 rfl ⟨by subst_vars; simp_all [f_told, rg], rfl⟩
          · by_cases e4 : w = 4
            · refine aw_swAt 4 (off := 154) (tgt := 165) e4 dX9_told_11 (by decide) (by decide) (by decide) (by decide) ?_
              refine aw_aload_n dX9_told_165 rfl ?_
              refine aw_get dX9_told_166 fg_X9_47_10 hR.1 rfl ?_
              refine aw_iload_n dX9_told_169 rfl ?_
              refine aw_iald dX9_told_170 (rr_15 hR) (by first | assumption | (unfold vp_in; decide)) ?_
              exact aw_iret dX9_told_171 rfl ⟨by subst_vars; simp_all [f_told, rg], rfl⟩
            · by_cases e5 : w = 5
              · refine aw_swAt 5 (off := 161) (tgt := 172) e5 dX9_told_11 (by decide) (by decide) (by decide) (by decide) ?_
                refine aw_aload_n dX9_told_172 rfl ?_
                refine aw_get dX9_told_173 fg_X9_50_10 hR.1 rfl ?_
                refine aw_iload_n dX9_told_176 rfl ?_
                refine aw_iald dX9_told_177 (rr_16 hR) (by first | assumption | (unfold vp_in; decide)) ?_
                exact aw_iret dX9_told_178 rfl ⟨by subst_vars; simp_all [f_told, rg], rfl⟩
              · by_cases e6 : w = 6
                · refine aw_swAt 6 (off := 168) (tgt := 179) e6 dX9_told_11 (by decide) (by decide) (by decide) (by decide) ?_
                  refine aw_aload_n dX9_told_179 rfl ?_
                  refine aw_iload_n dX9_told_180 rfl ?_
                  refine aw_aload_n dX9_told_181 rfl ?_
                  refine aw_get dX9_told_182 fg_X9_50_10 hR.1 rfl ?_
                  refine aw_iload_n dX9_told_185 rfl ?_
                  refine aw_iald dX9_told_186 (rr_16 hR) (by first | assumption | (unfold vp_in; decide)) ?_
                  refine aw_iload_n dX9_told_187 rfl ?_
                  refine aw_bipush (v := 6) dX9_told_188 (by decide) ?_
                  refine aw_icmp_ne (tgt := 197) dX9_told_190 (by decide) (fun h190 => ?_) (fun h190 => ?_)
                  · refine aw_iconst (v := 0) dX9_told_197 (by decide) ?_
                    refine aw_V3i (kc' := 0) (ks' := 0) dX9_told_198 cs_X9_181_10 hR.1 (r_wayOf hR hI hmi hj) rfl (Nat.le_of_ble_eq_true rfl) (fun x198 M198 h198 => ?_)
                    obtain ⟨rfl, e198⟩ := h198
                    replace e198 := e198.symm
                    subst e198
                    exact aw_iret dX9_told_201 rfl ⟨by subst_vars; simp_all [f_told, rg], rfl⟩
                  · refine aw_iconst (v := 1) dX9_told_193 (by decide) ?_
                    refine aw_goto (tgt := 198) dX9_told_194 (by decide) ?_
                    refine aw_V3i (kc' := 0) (ks' := 0) dX9_told_198 cs_X9_181_10 hR.1 (r_wayOf hR hI hmi hj) rfl (Nat.le_of_ble_eq_true rfl) (fun x198 M198 h198 => ?_)
                    obtain ⟨rfl, e198⟩ := h198
                    replace e198 := e198.symm
                    subst e198
                    exact aw_iret dX9_told_201 rfl ⟨by subst_vars; simp_all [f_told, rg], rfl⟩
                · by_cases e7 : w = 7
                  · refine aw_swAt 7 (off := 168) (tgt := 179) e7 dX9_told_11 (by decide) (by decide) (by decide) (by decide) ?_
                    refine aw_aload_n dX9_told_179 rfl ?_
                    refine aw_iload_n dX9_told_180 rfl ?_
                    refine aw_aload_n dX9_told_181 rfl ?_
                    refine aw_get dX9_told_182 fg_X9_50_10 hR.1 rfl ?_
                    refine aw_iload_n dX9_told_185 rfl ?_
                    refine aw_iald dX9_told_186 (rr_16 hR) (by first | assumption | (unfold vp_in; decide)) ?_
                    refine aw_iload_n dX9_told_187 rfl ?_
                    refine aw_bipush (v := 6) dX9_told_188 (by decide) ?_
                    refine aw_icmp_ne (tgt := 197) dX9_told_190 (by decide) (fun h190 => ?_) (fun h190 => ?_)
                    · refine aw_iconst (v := 0) dX9_told_197 (by decide) ?_
                      refine aw_V3i (kc' := 0) (ks' := 0) dX9_told_198 cs_X9_181_10 hR.1 (r_wayOf hR hI hmi hj) rfl (Nat.le_of_ble_eq_true rfl) (fun x198 M198 h198 => ?_)
                      obtain ⟨rfl, e198⟩ := h198
                      replace e198 := e198.symm
                      subst e198
                      exact aw_iret dX9_told_201 rfl ⟨by subst_vars; simp_all [f_told, rg], rfl⟩
                    · refine aw_iconst (v := 1) dX9_told_193 (by decide) ?_
                      refine aw_goto (tgt := 198) dX9_told_194 (by decide) ?_
                      refine aw_V3i (kc' := 0) (ks' := 0) dX9_told_198 cs_X9_181_10 hR.1 (r_wayOf hR hI hmi hj) rfl (Nat.le_of_ble_eq_true rfl) (fun x198 M198 h198 => ?_)
                      obtain ⟨rfl, e198⟩ := h198
                      replace e198 := e198.symm
                      subst e198
                      exact aw_iret dX9_told_201 rfl ⟨by subst_vars; simp_all [f_told, rg], rfl⟩
                  · by_cases e8 : w = 8
                    · refine aw_swAt 8 (off := 191) (tgt := 202) e8 dX9_told_11 (by decide) (by decide) (by decide) (by decide) ?_
                      refine aw_aload_n dX9_told_202 rfl ?_
                      refine aw_get dX9_told_203 fg_X9_41_10 hR.1 rfl ?_
                      refine aw_iload_n dX9_told_206 rfl ?_
                      refine aw_iald dX9_told_207 (rr_13 hR) (by first | assumption | (unfold vp_in; decide)) ?_
                      exact aw_iret dX9_told_208 rfl ⟨by subst_vars; simp_all [f_told, rg], rfl⟩
                    · refine aw_swOut (tgt := 209) dX9_told_11 (by have := ne_toInt e0; have := ne_toInt e1; have := ne_toInt e2; have := ne_toInt e3; have := ne_toInt e4; have := ne_toInt e5; have := ne_toInt e6; have := ne_toInt e7; have := ne_toInt e8; simp only [show (0 : Int32).toInt = 0 by decide, show (1 : Int32).toInt = 1 by decide, show (2 : Int32).toInt = 2 by decide, show (3 : Int32).toInt = 3 by decide, show (4 : Int32).toInt = 4 by decide, show (5 : Int32).toInt = 5 by decide, show (6 : Int32).toInt = 6 by decide, show (7 : Int32).toInt = 7 by decide, show (8 : Int32).toInt = 8 by decide, show (9 : Int32).toInt = 9 by decide] at *; omega) (by decide) ?_
                      refine aw_iconst (v := -1) dX9_told_209 (by decide) ?_
                      exact aw_iret dX9_told_210 rfl ⟨by subst_vars; simp_all [f_told, rg], rfl⟩
  · replace h5 := b2i_0.mp h5
    refine aw_iconst (v := -1) dX9_told_8 (by decide) ?_
    exact aw_iret dX9_told_9 rfl ⟨by rw [f_told, if_neg (by simp [h5])], rfl⟩
set_option maxRecDepth 100000 in
set_option maxHeartbeats 4000000 in
theorem rt_count {l : Launch} {g : ab_G} {M : ab_M} {a0 : Nat} {ρ : Nat → Nat} {σ : rS} (hR : RR g M a0 ρ σ) (hI : rI σ) {w : Int32} {QQ : Int32 → ab_M → Prop} (hq : QQ (lp (k_cnt σ w) 0 (σ.1 12).toNatClampNeg 0) M) : AW l g ab_X0 (ab_Z g (ab_Qi QQ)) Y_X9_count 0 0 0 0 59 [some (.ref a0), some (.int w), none, none] [] M := by
  obtain ⟨N, hN10, hN, hNc⟩ := rI_nm hI
  refine aw_iconst (v := 0) dX9_count_59 (by decide) ?_
  refine aw_istore_n dX9_count_60 rfl (by decide) ?_
  refine aw_iconst (v := 0) dX9_count_61 (by decide) ?_
  refine aw_istore_n dX9_count_62 rfl (by decide) ?_
  refine gl (fun _ M9 => M9 = M) (fun i s M9 => AW l g ab_X0 (ab_Z g (ab_Qi QQ)) Y_X9_count 0 0 0 0 63 [some (.ref a0), some (.int w), some (.int (s)), some (.int (nI i))] [] M9) (k_cnt σ w) (fun _ _ => True) N (fun _ _ _ _ => trivial) ?_ N 0 0 M (Nat.zero_add _) trivial rfl ?_
  · intro i s M9 h1 _ hp kk
    subst hp
    have hi : vp_in (nI i) 10 := vp_in_nI (by omega) (by omega)
    have kk : ∀ s9 : Int32, s9 = k_cnt σ w i s → AW l g ab_X0 (ab_Z g (ab_Qi QQ)) Y_X9_count 0 0 0 0 63 [some (.ref a0), some (.int w), some (.int (s9)), some (.int (nI (i + 1)))] [] M9 := fun s9 e9 => by rw [e9]; exact kk M9 rfl trivial
    refine aw_iload_n dX9_count_63 rfl ?_
    refine aw_aload_n dX9_count_64 rfl ?_
    refine aw_get dX9_count_65 fg_X9_126_10 hR.1 rfl ?_
    refine aw_icmp_ge (tgt := 97) dX9_count_68 (by decide) (fun h68 => absurd (show σ.1 12 ≤ nI i from h68) (by rw [hN]; exact nI_ge h1 (by omega))) (fun h68 => ?_)
    refine aw_iload_n dX9_count_71 rfl ?_
    refine aw_aload_n dX9_count_72 rfl ?_
    refine aw_get dX9_count_73 fg_X9_59_10 hR.1 rfl ?_
    refine aw_iload_n dX9_count_76 rfl ?_
    refine aw_iald dX9_count_77 (rr_19 hR) (by first | assumption | (unfold vp_in; decide)) ?_
    refine aw_iload_n dX9_count_78 rfl ?_
    refine aw_iconst (v := 3) dX9_count_79 (by decide) ?_
    refine aw_isub dX9_count_80 ?_
    refine aw_icmp_ne (tgt := 88) dX9_count_81 (by decide) (fun h81 => ?_) (fun h81 => ?_)
    · refine aw_iconst (v := 0) dX9_count_88 (by decide) ?_
      refine aw_iadd dX9_count_89 ?_
      refine aw_istore_n dX9_count_90 rfl (by decide) ?_
      refine aw_iinc dX9_count_91 rfl (ii_1 i) rfl (by decide) ?_
      refine aw_goto (tgt := 63) dX9_count_94 (by decide) ?_
      exact kk _ (by unfold k_cnt; simp_all [rg, b2i, -Int32.not_lt, -Int32.not_le])
    · refine aw_iconst (v := 1) dX9_count_84 (by decide) ?_
      refine aw_goto (tgt := 89) dX9_count_85 (by decide) ?_
      refine aw_iadd dX9_count_89 ?_
      refine aw_istore_n dX9_count_90 rfl (by decide) ?_
      refine aw_iinc dX9_count_91 rfl (ii_1 i) rfl (by decide) ?_
      refine aw_goto (tgt := 63) dX9_count_94 (by decide) ?_
      exact kk _ (by unfold k_cnt; simp_all [rg, b2i, -Int32.not_lt, -Int32.not_le])
  · intro M9 hp _
    subst hp
    rw [← hNc] at hN ⊢
    refine aw_iload_n dX9_count_63 rfl ?_
    refine aw_aload_n dX9_count_64 rfl ?_
    refine aw_get dX9_count_65 fg_X9_126_10 hR.1 rfl ?_
    refine aw_icmp_ge (tgt := 97) dX9_count_68 (by decide) (fun h68 => ?_) (fun h68 => absurd (show σ.1 12 ≤ nI _ by rw [← hN]; exact Int32.le_refl _) h68)
    refine aw_iload_n dX9_count_97 rfl ?_
    exact aw_iret dX9_count_98 rfl hq
set_option maxRecDepth 100000 in
set_option maxHeartbeats 4000000 in
theorem r_count {l : Launch} {g : ab_G} {M : ab_M} {a0 : Nat} {ρ : Nat → Nat} {σ : rS} (hR : RR g M a0 ρ σ) (hI : rI σ) {w : Int32} : AM l g Y_X9_count 0 0 0 0 [.ref a0, .int w] M (ab_Qi (fun x M' => x = f_count σ w ∧ M' = M)) := by
  refine AM.of [some (.ref a0), some (.int w), none, none] (by decide +kernel) (Nat.le_of_ble_eq_true rfl) rfl ?_
  refine aw_iload_n dX9_count_0 rfl ?_
  by_cases e0 : w = 0
  · refine aw_swAt 0 (off := 43) (tgt := 44) e0 dX9_count_1 (by decide) (by decide) (by decide) (by decide) ?_
    refine aw_aload_n dX9_count_44 rfl ?_
    refine aw_get dX9_count_45 fg_X9_119_10 hR.1 rfl ?_
    exact aw_iret dX9_count_48 rfl ⟨by subst_vars; simp_all [f_count, rg], rfl⟩
  · by_cases e1 : w = 1
    · refine aw_swAt 1 (off := 48) (tgt := 49) e1 dX9_count_1 (by decide) (by decide) (by decide) (by decide) ?_
      refine aw_aload_n dX9_count_49 rfl ?_
      refine aw_get dX9_count_50 fg_X9_116_10 hR.1 rfl ?_
      exact aw_iret dX9_count_53 rfl ⟨by subst_vars; simp_all [f_count, rg], rfl⟩
    · by_cases e2 : w = 2
      · refine aw_swAt 2 (off := 53) (tgt := 54) e2 dX9_count_1 (by decide) (by decide) (by decide) (by decide) ?_
        refine aw_aload_n dX9_count_54 rfl ?_
        refine aw_get dX9_count_55 fg_X9_126_10 hR.1 rfl ?_
        exact aw_iret dX9_count_58 rfl ⟨by subst_vars; simp_all [f_count, rg], rfl⟩
      · by_cases e3 : w = 3
        · refine aw_swAt 3 (off := 58) (tgt := 59) e3 dX9_count_1 (by decide) (by decide) (by decide) (by decide) ?_
          exact rt_count hR hI ⟨by subst_vars; simp_all [f_count, rg], rfl⟩
        · by_cases e4 : w = 4
          · refine aw_swAt 4 (off := 58) (tgt := 59) e4 dX9_count_1 (by decide) (by decide) (by decide) (by decide) ?_
            exact rt_count hR hI ⟨by subst_vars; simp_all [f_count, rg], rfl⟩
          · by_cases e5 : w = 5
            · refine aw_swAt 5 (off := 58) (tgt := 59) e5 dX9_count_1 (by decide) (by decide) (by decide) (by decide) ?_
              exact rt_count hR hI ⟨by subst_vars; simp_all [f_count, rg], rfl⟩
            · by_cases e6 : w = 6
              · refine aw_swAt 6 (off := 98) (tgt := 99) e6 dX9_count_1 (by decide) (by decide) (by decide) (by decide) ?_
                refine aw_aload_n dX9_count_99 rfl ?_
                refine aw_get dX9_count_100 fg_X9_185_10 hR.1 rfl ?_
                exact aw_iret dX9_count_103 rfl ⟨by subst_vars; simp_all [f_count, rg], rfl⟩
              · refine aw_swOut (tgt := 104) dX9_count_1 (by have := ne_toInt e0; have := ne_toInt e1; have := ne_toInt e2; have := ne_toInt e3; have := ne_toInt e4; have := ne_toInt e5; have := ne_toInt e6; simp only [show (0 : Int32).toInt = 0 by decide, show (1 : Int32).toInt = 1 by decide, show (2 : Int32).toInt = 2 by decide, show (3 : Int32).toInt = 3 by decide, show (4 : Int32).toInt = 4 by decide, show (5 : Int32).toInt = 5 by decide, show (6 : Int32).toInt = 6 by decide, show (7 : Int32).toInt = 7 by decide, show (8 : Int32).toInt = 8 by decide, show (9 : Int32).toInt = 9 by decide] at *; omega) (by decide) ?_
                refine aw_iconst (v := -1) dX9_count_104 (by decide) ?_
                exact aw_iret dX9_count_105 rfl ⟨by subst_vars; simp_all [f_count, rg], rfl⟩
set_option maxRecDepth 100000 in
set_option maxHeartbeats 4000000 in
theorem rt_foul {l : Launch} {g : ab_G} {M : ab_M} {a0 : Nat} {ρ : Nat → Nat} {σ : rS} (hR : RR g M a0 ρ σ) (hI : rI σ) {f t : Int32} {QQ : Int32 → ab_M → Prop} (hq : QQ (lp (k_foul σ f t) 0 (σ.1 35).toNatClampNeg 0) M) : AW l g ab_X0 (ab_Z g (ab_Qi QQ)) Y_X9_foul 2 43 0 0 14 [some (.ref a0), some (.int f), some (.int t), none, none] [] M := by
  obtain ⟨N, hN10, hN, hNc⟩ := rI_np hI
  refine aw_iconst (v := 0) dX9_foul_14 (by decide) ?_
  refine aw_istore_n dX9_foul_15 rfl (by decide) ?_
  refine aw_iconst (v := 0) dX9_foul_16 (by decide) ?_
  refine aw_istore dX9_foul_17 rfl (by decide) ?_
  refine gl (fun _ M9 => M9 = M) (fun i s M9 => AW l g ab_X0 (ab_Z g (ab_Qi QQ)) Y_X9_foul 2 43 0 0 19 [some (.ref a0), some (.int f), some (.int t), some (.int (s)), some (.int (nI i))] [] M9) (k_foul σ f t) (fun _ _ => True) N (fun _ _ _ _ => trivial) ?_ N 0 0 M (Nat.zero_add _) trivial rfl ?_
  · intro i s M9 h1 _ hp kk
    subst hp
    obtain ⟨i0, i1, i2, i3, i4, i5⟩ := in_kept (x := nI i) (by rw [nI_toInt (by omega)]; omega) (by rw [nI_toInt (by omega)]; omega)
    have kk : ∀ s9 : Int32, s9 = k_foul σ f t i s → AW l g ab_X0 (ab_Z g (ab_Qi QQ)) Y_X9_foul 2 43 0 0 19 [some (.ref a0), some (.int f), some (.int t), some (.int (s9)), some (.int (nI (i + 1)))] [] M9 := fun s9 e9 => by rw [e9]; exact kk M9 rfl trivial
    refine aw_iload dX9_foul_19 rfl ?_
    refine aw_aload_n dX9_foul_21 rfl ?_
    refine aw_get dX9_foul_22 fg_X9_185_10 hR.1 rfl ?_
    refine aw_icmp_ge (tgt := 87) dX9_foul_25 (by decide) (fun h25 => absurd (show σ.1 35 ≤ nI i from h25) (by rw [hN]; exact nI_ge h1 (by omega))) (fun h25 => ?_)
    refine aw_iload_n dX9_foul_28 rfl ?_
    refine aw_aload_n dX9_foul_29 rfl ?_
    refine aw_get dX9_foul_30 fg_X9_97_10 hR.1 rfl ?_
    refine aw_bipush (v := 6) dX9_foul_33 (by decide) ?_
    refine aw_iload dX9_foul_35 rfl ?_
    refine aw_imul dX9_foul_37 ?_
    refine aw_iconst (v := 4) dX9_foul_38 (by decide) ?_
    refine aw_iadd dX9_foul_39 ?_
    refine aw_iald dX9_foul_40 (rr_36 hR) (by first | assumption | (unfold vp_in; decide)) ?_
    refine aw_iload_n dX9_foul_41 rfl ?_
    refine aw_icmp_ne (tgt := 78) dX9_foul_42 (by decide) (fun h42 => ?_) (fun h42 => ?_)
    · refine aw_iconst (v := 0) dX9_foul_78 (by decide) ?_
      refine aw_ior dX9_foul_79 ?_
      refine aw_istore_n dX9_foul_80 rfl (by decide) ?_
      refine aw_iinc dX9_foul_81 rfl (ii_1 i) rfl (by decide) ?_
      refine aw_goto (tgt := 19) dX9_foul_84 (by decide) ?_
      exact kk _ (by unfold k_foul; simp_all [rg, b2i, -Int32.not_lt, -Int32.not_le])
    · refine aw_aload_n dX9_foul_45 rfl ?_
      refine aw_get dX9_foul_46 fg_X9_97_10 hR.1 rfl ?_
      refine aw_bipush (v := 6) dX9_foul_49 (by decide) ?_
      refine aw_iload dX9_foul_51 rfl ?_
      refine aw_imul dX9_foul_53 ?_
      refine aw_iconst (v := 5) dX9_foul_54 (by decide) ?_
      refine aw_iadd dX9_foul_55 ?_
      refine aw_iald dX9_foul_56 (rr_36 hR) (by first | assumption | (unfold vp_in; decide)) ?_
      refine aw_iload_n dX9_foul_57 rfl ?_
      refine aw_icmp_lt (tgt := 78) dX9_foul_58 (by decide) (fun h58 => ?_) (fun h58 => ?_)
      · refine aw_iconst (v := 0) dX9_foul_78 (by decide) ?_
        refine aw_ior dX9_foul_79 ?_
        refine aw_istore_n dX9_foul_80 rfl (by decide) ?_
        refine aw_iinc dX9_foul_81 rfl (ii_1 i) rfl (by decide) ?_
        refine aw_goto (tgt := 19) dX9_foul_84 (by decide) ?_
        exact kk _ (by unfold k_foul; simp_all [rg, b2i, -Int32.not_lt, -Int32.not_le])
      · refine aw_iconst (v := 1) dX9_foul_61 (by decide) ?_
        refine aw_aload_n dX9_foul_62 rfl ?_
        refine aw_get dX9_foul_63 fg_X9_97_10 hR.1 rfl ?_
        refine aw_bipush (v := 6) dX9_foul_66 (by decide) ?_
        refine aw_iload dX9_foul_68 rfl ?_
        refine aw_imul dX9_foul_70 ?_
        refine aw_iconst (v := 1) dX9_foul_71 (by decide) ?_
        refine aw_iadd dX9_foul_72 ?_
        refine aw_iald dX9_foul_73 (rr_36 hR) (by first | assumption | (unfold vp_in; decide)) ?_
        refine aw_ishl dX9_foul_74 ?_
        refine aw_goto (tgt := 79) dX9_foul_75 (by decide) ?_
        refine aw_ior dX9_foul_79 ?_
        refine aw_istore_n dX9_foul_80 rfl (by decide) ?_
        refine aw_iinc dX9_foul_81 rfl (ii_1 i) rfl (by decide) ?_
        refine aw_goto (tgt := 19) dX9_foul_84 (by decide) ?_
        exact kk _ (by unfold k_foul; simp_all [rg, b2i, -Int32.not_lt, -Int32.not_le])
  · intro M9 hp _
    subst hp
    rw [← hNc] at hN ⊢
    refine aw_iload dX9_foul_19 rfl ?_
    refine aw_aload_n dX9_foul_21 rfl ?_
    refine aw_get dX9_foul_22 fg_X9_185_10 hR.1 rfl ?_
    refine aw_icmp_ge (tgt := 87) dX9_foul_25 (by decide) (fun h25 => ?_) (fun h25 => absurd (show σ.1 35 ≤ nI _ by rw [← hN]; exact Int32.le_refl _) h25)
    refine aw_iload_n dX9_foul_87 rfl ?_
    exact aw_iret dX9_foul_88 rfl hq
set_option maxRecDepth 100000 in
set_option maxHeartbeats 4000000 in
theorem r_foul {l : Launch} {g : ab_G} {M : ab_M} {a0 : Nat} {ρ : Nat → Nat} {σ : rS} (hR : RR g M a0 ρ σ) (hI : rI σ) {f t : Int32} : AM l g Y_X9_foul 2 43 0 0 [.ref a0, .int f, .int t] M (ab_Qi (fun x M' => x = f_foul σ f t ∧ M' = M)) := by
  refine AM.of [some (.ref a0), some (.int f), some (.int t), none, none] (by decide +kernel) (Nat.le_of_ble_eq_true rfl) rfl ?_
  refine aw_aload_n dX9_foul_0 rfl ?_
  refine aw_iload_n dX9_foul_1 rfl ?_
  refine aw_V1i (kc' := 0) (ks' := 0) dX9_foul_2 cs_X9_136_10 hR.1 (r_isFountain hR) rfl (Nat.le_of_ble_eq_true rfl) (fun x2 M2 h2 => ?_)
  obtain ⟨rfl, e2⟩ := h2
  replace e2 := e2.symm
  subst e2
  refine aw_if_eq (tgt := 12) dX9_foul_5 (by decide) (fun h5 => ?_) (fun h5 => ?_)
  · replace h5 := b2i_0.mp h5
    refine aw_iconst (v := -1) dX9_foul_12 (by decide) ?_
    exact aw_iret dX9_foul_13 rfl ⟨by simp_all [f_foul, -Int32.not_lt, -Int32.not_le], rfl⟩
  · replace h5 := b2i_n.mp h5
    refine aw_iload_n dX9_foul_8 rfl ?_
    refine aw_if_ge (tgt := 14) dX9_foul_9 (by decide) (fun h9 => ?_) (fun h9 => ?_)
    · exact rt_foul hR hI ⟨by simp_all [f_foul, -Int32.not_lt, -Int32.not_le], rfl⟩
    · refine aw_iconst (v := -1) dX9_foul_12 (by decide) ?_
      exact aw_iret dX9_foul_13 rfl ⟨by simp_all [f_foul, -Int32.not_lt, -Int32.not_le], rfl⟩
