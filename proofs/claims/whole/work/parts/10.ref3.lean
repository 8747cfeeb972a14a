/-! ===== the reference's methods, 3 ===== -/
/-- n steps of a loop, from place i on -/
def lp {S : Type} (φ : Nat → S → S) : Nat → Nat → S → S
  | _, 0, s => s
  | i, n + 1, s => lp φ (i + 1) n (φ i s)
theorem gl {S : Type} (P : S → ab_M → Prop) (H : Nat → S → ab_M → Prop) (φ : Nat → S → S) (I : Nat → S → Prop) (N : Nat) (hI : ∀ i s, i < N → I i s → I (i + 1) (φ i s))
    (step : ∀ i s M, i < N → I i s → P s M → (∀ M', P (φ i s) M' → I (i + 1) (φ i s) → H (i + 1) (φ i s) M') → H i s M) : ∀ (n i : Nat) (s : S) (M : ab_M), i + n = N → I i s → P s M → (∀ M', P (lp φ i n s) M' → I N (lp φ i n s) → H N (lp φ i n s) M') → H i s M
  | 0, i, s, M, h, hi, hp, ex => by
    have e : i = N := by omega
    subst e
    exact ex M hp hi
  | n + 1, i, s, M, h, hi, hp, ex => step i s M (by omega) hi hp (fun M' h' hi' => gl P H φ I N hI step n (i + 1) (φ i s) M' (by omega) hi' h' ex)
theorem lp_inv {S : Type} {φ : Nat → S → S} (I : Nat → S → Prop) : ∀ (n i : Nat) (s : S), I i s → (∀ j s, i ≤ j → j < i + n → I j s → I (j + 1) (φ j s)) → I (i + n) (lp φ i n s)
  | 0, i, s, h, _ => h
  | n + 1, i, s, h, hs => by
    have := lp_inv I n (i + 1) (φ i s) (hs i s (Nat.le_refl _) (by omega) h) (fun j s h1 h2 h3 => hs j s (by omega) (by omega) h3)
    rw [show i + (n + 1) = (i + 1) + n by omega]
    exact this
theorem ii_1 (i : Nat) : nI i + Int32.ofInt 1 = nI (i + 1) := by
  rw [show Int32.ofInt 1 = (1 : Int32) by decide]
  exact nI_1 i
/-- the reference holds the state σ, and no other cell has changed since M0 -/
abbrev rP (g : ab_G) (a0 : Nat) (ρ : Nat → Nat) (M0 : ab_M) (σ : rS) (M : ab_M) : Prop := RR g M a0 ρ σ ∧ KR M0 M
set_option maxRecDepth 100000 in
set_option maxHeartbeats 4000000 in
theorem r_jar {l : Launch} {g : ab_G} {M : ab_M} {a0 : Nat} {ρ : Nat → Nat} {σ : rS} (hR : RR g M a0 ρ σ) (hI : rI σ) {fl ho a b c d : Int32} : AM l g Y_X9_jar 2 44 0 0 [.ref a0, .int fl, .int ho, .int a, .int b, .int c, .int d] M (ab_Qi (fun x M' => x = (f_jar σ fl ho a b c d).1 ∧ RR g M' a0 ρ (f_jar σ fl ho a b c d).2 ∧ KR M M')) := by
  refine AM.of [some (.ref a0), some (.int fl), some (.int ho), some (.int a), some (.int b), some (.int c), some (.int d)] (by decide +kernel) (Nat.le_of_ble_eq_true rfl) rfl ?_
  have hK : KR M M := KR.rf
  refine aw_iload_n dX9_jar_0 rfl ?_
  refine aw_iconst (v := 0) dX9_jar_1 (by decide) ?_
  refine aw_bipush (v := 9) dX9_jar_2 (by decide) ?_
  refine aw_S3i (kc' := 0) (ks' := 0) dX9_jar_4 cs_X9_112 r_in rfl (Nat.le_of_ble_eq_true rfl) (fun x4 M4 h4 => ?_)
  obtain ⟨rfl, rfl⟩ := h4
  refine aw_if_eq (tgt := 60) dX9_jar_7 (by decide) (fun h7 => ?_) (fun h7 => ?_)
  · replace h7 := b2i_0.mp h7
    refine aw_iconst (v := -1) dX9_jar_60 (by decide) ?_
    exact aw_iret dX9_jar_61 rfl (by refine ⟨?_, ?_, hK⟩ <;> simp only [f_jar, *, ↓reduceIte, Bool.false_eq_true, Bool.and_self, Bool.and_true, Bool.and_false, Bool.false_and, Bool.true_and, Bool.or_true, Bool.true_or, Bool.or_false, Bool.false_or, reduceCtorEq, not_true_eq_false, not_false_eq_true] <;> first | rfl | exact hR)
  · replace h7 := b2i_n.mp h7
    refine aw_iload_n dX9_jar_10 rfl ?_
    refine aw_iconst (v := 1) dX9_jar_11 (by decide) ?_
    refine aw_sipush (v := 200) dX9_jar_12 (by decide) ?_
    refine aw_S3i (kc' := 0) (ks' := 0) dX9_jar_15 cs_X9_112 r_in rfl (Nat.le_of_ble_eq_true rfl) (fun x15 M15 h15 => ?_)
    obtain ⟨rfl, rfl⟩ := h15
    refine aw_if_eq (tgt := 60) dX9_jar_18 (by decide) (fun h18 => ?_) (fun h18 => ?_)
    · replace h18 := b2i_0.mp h18
      refine aw_iconst (v := -1) dX9_jar_60 (by decide) ?_
      exact aw_iret dX9_jar_61 rfl (by refine ⟨?_, ?_, hK⟩ <;> simp only [f_jar, *, ↓reduceIte, Bool.false_eq_true, Bool.and_self, Bool.and_true, Bool.and_false, Bool.false_and, Bool.true_and, Bool.or_true, Bool.true_or, Bool.or_false, Bool.false_or, reduceCtorEq, not_true_eq_false, not_false_eq_true] <;> first | rfl | exact hR)
    · replace h18 := b2i_n.mp h18
      refine aw_aload_n dX9_jar_21 rfl ?_
      refine aw_iconst (v := 0) dX9_jar_22 (by decide) ?_
      refine aw_iload_n dX9_jar_23 rfl ?_
      refine aw_V2i (kc' := 0) (ks' := 0) dX9_jar_24 cs_X9_122_10 hR.1 (r_isMinutes hR) rfl (Nat.le_of_ble_eq_true rfl) (fun x24 M24 h24 => ?_)
      obtain ⟨rfl, rfl⟩ := h24
      refine aw_if_eq (tgt := 60) dX9_jar_27 (by decide) (fun h27 => ?_) (fun h27 => ?_)
      · replace h27 := b2i_0.mp h27
        refine aw_iconst (v := -1) dX9_jar_60 (by decide) ?_
        exact aw_iret dX9_jar_61 rfl (by refine ⟨?_, ?_, hK⟩ <;> simp only [f_jar, *, ↓reduceIte, Bool.false_eq_true, Bool.and_self, Bool.and_true, Bool.and_false, Bool.false_and, Bool.true_and, Bool.or_true, Bool.true_or, Bool.or_false, Bool.false_or, reduceCtorEq, not_true_eq_false, not_false_eq_true] <;> first | rfl | exact hR)
      · replace h27 := b2i_n.mp h27
        refine aw_aload_n dX9_jar_30 rfl ?_
        refine aw_iconst (v := 1) dX9_jar_31 (by decide) ?_
        refine aw_iload dX9_jar_32 rfl ?_
        refine aw_V2i (kc' := 0) (ks' := 0) dX9_jar_34 cs_X9_122_10 hR.1 (r_isMinutes hR) rfl (Nat.le_of_ble_eq_true rfl) (fun x34 M34 h34 => ?_)
        obtain ⟨rfl, rfl⟩ := h34
        refine aw_if_eq (tgt := 60) dX9_jar_37 (by decide) (fun h37 => ?_) (fun h37 => ?_)
        · replace h37 := b2i_0.mp h37
          refine aw_iconst (v := -1) dX9_jar_60 (by decide) ?_
          exact aw_iret dX9_jar_61 rfl (by refine ⟨?_, ?_, hK⟩ <;> simp only [f_jar, *, ↓reduceIte, Bool.false_eq_true, Bool.and_self, Bool.and_true, Bool.and_false, Bool.false_and, Bool.true_and, Bool.or_true, Bool.true_or, Bool.or_false, Bool.false_or, reduceCtorEq, not_true_eq_false, not_false_eq_true] <;> first | rfl | exact hR)
        · replace h37 := b2i_n.mp h37
          refine aw_aload_n dX9_jar_40 rfl ?_
          refine aw_iconst (v := 2) dX9_jar_41 (by decide) ?_
          refine aw_iload dX9_jar_42 rfl ?_
          refine aw_V2i (kc' := 0) (ks' := 0) dX9_jar_44 cs_X9_122_10 hR.1 (r_isMinutes hR) rfl (Nat.le_of_ble_eq_true rfl) (fun x44 M44 h44 => ?_)
          obtain ⟨rfl, rfl⟩ := h44
          refine aw_if_eq (tgt := 60) dX9_jar_47 (by decide) (fun h47 => ?_) (fun h47 => ?_)
          · replace h47 := b2i_0.mp h47
            refine aw_iconst (v := -1) dX9_jar_60 (by decide) ?_
            exact aw_iret dX9_jar_61 rfl (by refine ⟨?_, ?_, hK⟩ <;> simp only [f_jar, *, ↓reduceIte, Bool.false_eq_true, Bool.and_self, Bool.and_true, Bool.and_false, Bool.false_and, Bool.true_and, Bool.or_true, Bool.true_or, Bool.or_false, Bool.false_or, reduceCtorEq, not_true_eq_false, not_false_eq_true] <;> first | rfl | exact hR)
          · replace h47 := b2i_n.mp h47
            refine aw_aload_n dX9_jar_50 rfl ?_
            refine aw_iconst (v := 3) dX9_jar_51 (by decide) ?_
            refine aw_iload dX9_jar_52 rfl ?_
            refine aw_V2i (kc' := 0) (ks' := 0) dX9_jar_54 cs_X9_122_10 hR.1 (r_isMinutes hR) rfl (Nat.le_of_ble_eq_true rfl) (fun x54 M54 h54 => ?_)
            obtain ⟨rfl, rfl⟩ := h54
            refine aw_if_ne (tgt := 62) dX9_jar_57 (by decide) (fun h57 => ?_) (fun h57 => ?_)
            · replace h57 := b2i_n.mp h57
              refine aw_aload_n dX9_jar_62 rfl ?_
              refine aw_get dX9_jar_63 fg_X9_119_10 hR.1 rfl ?_
              refine aw_if_ne (tgt := 72) dX9_jar_66 (by decide) (fun h66 => ?_) (fun h66 => ?_)
              · refine aw_aload_n dX9_jar_72 rfl ?_
                refine aw_get dX9_jar_73 fg_X9_116_10 hR.1 rfl ?_
                refine aw_bipush (v := 8) dX9_jar_76 (by decide) ?_
                refine aw_icmp_ne (tgt := 84) dX9_jar_78 (by decide) (fun h78 => ?_) (fun h78 => ?_)
                · have hv : vp_in (σ.1 5) 8 := (by rw [vp_in_iff]; have := hI.2.1; have := ne_toInt h78; rw [t_8] at this; omega)
                  obtain ⟨hv0, hv1, hv2, hv3⟩ := in_aw hv
                  refine aw_aload_n dX9_jar_84 rfl ?_
                  refine aw_get dX9_jar_85 fg_X9_23_10 hR.1 rfl ?_
                  refine aw_aload_n dX9_jar_88 rfl ?_
                  refine aw_get dX9_jar_89 fg_X9_116_10 hR.1 rfl ?_
                  refine aw_iload_n dX9_jar_92 rfl ?_
                  refine rw_iast_6 dX9_jar_93 (by first | assumption | (unfold vp_in; decide)) hR hK (fun M hR hK => ?_)
                  refine aw_aload_n dX9_jar_94 rfl ?_
                  refine aw_get dX9_jar_95 fg_X9_26_10 hR.1 rfl ?_
                  refine aw_aload_n dX9_jar_98 rfl ?_
                  refine aw_get dX9_jar_99 fg_X9_116_10 hR.1 rfl ?_
                  refine aw_iload_n dX9_jar_102 rfl ?_
                  refine rw_iast_7 dX9_jar_103 (by first | assumption | (unfold vp_in; decide)) hR hK (fun M hR hK => ?_)
                  refine aw_aload_n dX9_jar_104 rfl ?_
                  refine aw_get dX9_jar_105 fg_X9_29_10 hR.1 rfl ?_
                  refine aw_iconst (v := 4) dX9_jar_108 (by decide) ?_
                  refine aw_aload_n dX9_jar_109 rfl ?_
                  refine aw_get dX9_jar_110 fg_X9_116_10 hR.1 rfl ?_
                  refine aw_imul dX9_jar_113 ?_
                  refine aw_iload_n dX9_jar_114 rfl ?_
                  refine rw_iast_8 dX9_jar_115 (by first | assumption | (unfold vp_in; decide)) hR hK (fun M hR hK => ?_)
                  refine aw_aload_n dX9_jar_116 rfl ?_
                  refine aw_get dX9_jar_117 fg_X9_29_10 hR.1 rfl ?_
                  refine aw_iconst (v := 4) dX9_jar_120 (by decide) ?_
                  refine aw_aload_n dX9_jar_121 rfl ?_
                  refine aw_get dX9_jar_122 fg_X9_116_10 hR.1 rfl ?_
                  refine aw_imul dX9_jar_125 ?_
                  refine aw_iconst (v := 1) dX9_jar_126 (by decide) ?_
                  refine aw_iadd dX9_jar_127 ?_
                  refine aw_iload dX9_jar_128 rfl ?_
                  refine rw_iast_8 dX9_jar_130 (by first | assumption | (unfold vp_in; decide)) hR hK (fun M hR hK => ?_)
                  refine aw_aload_n dX9_jar_131 rfl ?_
                  refine aw_get dX9_jar_132 fg_X9_29_10 hR.1 rfl ?_
                  refine aw_iconst (v := 4) dX9_jar_135 (by decide) ?_
                  refine aw_aload_n dX9_jar_136 rfl ?_
                  refine aw_get dX9_jar_137 fg_X9_116_10 hR.1 rfl ?_
                  refine aw_imul dX9_jar_140 ?_
                  refine aw_iconst (v := 2) dX9_jar_141 (by decide) ?_
                  refine aw_iadd dX9_jar_142 ?_
                  refine aw_iload dX9_jar_143 rfl ?_
                  refine rw_iast_8 dX9_jar_145 (by first | assumption | (unfold vp_in; decide)) hR hK (fun M hR hK => ?_)
                  refine aw_aload_n dX9_jar_146 rfl ?_
                  refine aw_get dX9_jar_147 fg_X9_29_10 hR.1 rfl ?_
                  refine aw_iconst (v := 4) dX9_jar_150 (by decide) ?_
                  refine aw_aload_n dX9_jar_151 rfl ?_
                  refine aw_get dX9_jar_152 fg_X9_116_10 hR.1 rfl ?_
                  refine aw_imul dX9_jar_155 ?_
                  refine aw_iconst (v := 3) dX9_jar_156 (by decide) ?_
                  refine aw_iadd dX9_jar_157 ?_
                  refine aw_iload dX9_jar_158 rfl ?_
                  refine rw_iast_8 dX9_jar_160 (by first | assumption | (unfold vp_in; decide)) hR hK (fun M hR hK => ?_)
                  refine aw_aload_n dX9_jar_161 rfl ?_
                  refine aw_dup dX9_jar_162 rfl ?_
                  refine aw_get dX9_jar_163 fg_X9_116_10 hR.1 rfl ?_
                  refine aw_iconst (v := 1) dX9_jar_166 (by decide) ?_
                  refine aw_iadd dX9_jar_167 ?_
                  refine rw_put_5 dX9_jar_168 fl_X9_116_10 hR hK (fun M hR hK => ?_)
                  refine aw_aload_n dX9_jar_171 rfl ?_
                  refine aw_get dX9_jar_172 fg_X9_116_10 hR.1 rfl ?_
                  refine aw_iconst (v := 1) dX9_jar_175 (by decide) ?_
                  refine aw_isub dX9_jar_176 ?_
                  exact aw_iret dX9_jar_177 rfl (by refine ⟨?_, ?_, hK⟩ <;> simp only [f_jar, *, ↓reduceIte, Bool.false_eq_true, Bool.and_self, Bool.and_true, Bool.and_false, Bool.false_and, Bool.true_and, Bool.or_true, Bool.true_or, Bool.or_false, Bool.false_or, reduceCtorEq, not_true_eq_false, not_false_eq_true] <;> first | rfl | exact hR)
                · refine aw_bipush (v := -3) dX9_jar_81 (by decide) ?_
                  exact aw_iret dX9_jar_83 rfl (by refine ⟨?_, ?_, hK⟩ <;> simp only [f_jar, *, ↓reduceIte, Bool.false_eq_true, Bool.and_self, Bool.and_true, Bool.and_false, Bool.false_and, Bool.true_and, Bool.or_true, Bool.true_or, Bool.or_false, Bool.false_or, reduceCtorEq, not_true_eq_false, not_false_eq_true] <;> first | rfl | exact hR)
              · refine aw_bipush (v := -2) dX9_jar_69 (by decide) ?_
                exact aw_iret dX9_jar_71 rfl (by refine ⟨?_, ?_, hK⟩ <;> simp only [f_jar, *, ↓reduceIte, Bool.false_eq_true, Bool.and_self, Bool.and_true, Bool.and_false, Bool.false_and, Bool.true_and, Bool.or_true, Bool.true_or, Bool.or_false, Bool.false_or, reduceCtorEq, not_true_eq_false, not_false_eq_true] <;> first | rfl | exact hR)
            · replace h57 := b2i_0.mp h57
              refine aw_iconst (v := -1) dX9_jar_60 (by decide) ?_
              exact aw_iret dX9_jar_61 rfl (by refine ⟨?_, ?_, hK⟩ <;> simp only [f_jar, *, ↓reduceIte, Bool.false_eq_true, Bool.and_self, Bool.and_true, Bool.and_false, Bool.false_and, Bool.true_and, Bool.or_true, Bool.true_or, Bool.or_false, Bool.false_or, reduceCtorEq, not_true_eq_false, not_false_eq_true] <;> first | rfl | exact hR)
set_option maxRecDepth 100000 in
set_option maxHeartbeats 4000000 in
theorem r_man {l : Launch} {g : ab_G} {M : ab_M} {a0 : Nat} {ρ : Nat → Nat} {σ : rS} (hR : RR g M a0 ρ σ) (hI : rI σ) {k w f j : Int32} : AM l g Y_X9_man 2 43 0 0 [.ref a0, .int k, .int w, .int f, .int j] M (ab_Qi (fun x M' => x = (f_man σ k w f j).1 ∧ RR g M' a0 ρ (f_man σ k w f j).2 ∧ KR M M')) := by
  refine AM.of [some (.ref a0), some (.int k), some (.int w), some (.int f), some (.int j)] (by decide +kernel) (Nat.le_of_ble_eq_true rfl) rfl ?_
  have hK : KR M M := KR.rf
  refine aw_iload_n dX9_man_0 rfl ?_
  refine aw_iconst (v := 0) dX9_man_1 (by decide) ?_
  refine aw_iconst (v := 2) dX9_man_2 (by decide) ?_
  refine aw_S3i (kc' := 0) (ks' := 0) dX9_man_3 cs_X9_112 r_in rfl (Nat.le_of_ble_eq_true rfl) (fun x3 M3 h3 => ?_)
  obtain ⟨rfl, rfl⟩ := h3
  refine aw_if_eq (tgt := 36) dX9_man_6 (by decide) (fun h6 => ?_) (fun h6 => ?_)
  · replace h6 := b2i_0.mp h6
    refine aw_iconst (v := -1) dX9_man_36 (by decide) ?_
    exact aw_iret dX9_man_37 rfl (by refine ⟨?_, ?_, hK⟩ <;> simp only [f_man, *, ↓reduceIte, Bool.false_eq_true, Bool.and_self, Bool.and_true, Bool.and_false, Bool.false_and, Bool.true_and, Bool.or_true, Bool.true_or, Bool.or_false, Bool.false_or, reduceCtorEq, not_true_eq_false, not_false_eq_true] <;> first | rfl | exact hR)
  · replace h6 := b2i_n.mp h6
    refine aw_iload_n dX9_man_9 rfl ?_
    refine aw_iconst (v := 1) dX9_man_10 (by decide) ?_
    refine aw_bipush (v := 40) dX9_man_11 (by decide) ?_
    refine aw_S3i (kc' := 0) (ks' := 0) dX9_man_13 cs_X9_112 r_in rfl (Nat.le_of_ble_eq_true rfl) (fun x13 M13 h13 => ?_)
    obtain ⟨rfl, rfl⟩ := h13
    refine aw_if_eq (tgt := 36) dX9_man_16 (by decide) (fun h16 => ?_) (fun h16 => ?_)
    · replace h16 := b2i_0.mp h16
      refine aw_iconst (v := -1) dX9_man_36 (by decide) ?_
      exact aw_iret dX9_man_37 rfl (by refine ⟨?_, ?_, hK⟩ <;> simp only [f_man, *, ↓reduceIte, Bool.false_eq_true, Bool.and_self, Bool.and_true, Bool.and_false, Bool.false_and, Bool.true_and, Bool.or_true, Bool.true_or, Bool.or_false, Bool.false_or, reduceCtorEq, not_true_eq_false, not_false_eq_true] <;> first | rfl | exact hR)
    · replace h16 := b2i_n.mp h16
      refine aw_aload_n dX9_man_19 rfl ?_
      refine aw_iload_n dX9_man_20 rfl ?_
      refine aw_V1i (kc' := 0) (ks' := 0) dX9_man_21 cs_X9_136_10 hR.1 (r_isFountain hR) rfl (Nat.le_of_ble_eq_true rfl) (fun x21 M21 h21 => ?_)
      obtain ⟨rfl, rfl⟩ := h21
      refine aw_if_eq (tgt := 36) dX9_man_24 (by decide) (fun h24 => ?_) (fun h24 => ?_)
      · replace h24 := b2i_0.mp h24
        refine aw_iconst (v := -1) dX9_man_36 (by decide) ?_
        exact aw_iret dX9_man_37 rfl (by refine ⟨?_, ?_, hK⟩ <;> simp only [f_man, *, ↓reduceIte, Bool.false_eq_true, Bool.and_self, Bool.and_true, Bool.and_false, Bool.false_and, Bool.true_and, Bool.or_true, Bool.true_or, Bool.or_false, Bool.false_or, reduceCtorEq, not_true_eq_false, not_false_eq_true] <;> first | rfl | exact hR)
      · replace h24 := b2i_n.mp h24
        refine aw_aload_n dX9_man_27 rfl ?_
        refine aw_iload dX9_man_28 rfl ?_
        refine aw_V1i (kc' := 0) (ks' := 0) dX9_man_30 cs_X9_129_10 hR.1 (r_isJar hR) rfl (Nat.le_of_ble_eq_true rfl) (fun x30 M30 h30 => ?_)
        obtain ⟨rfl, rfl⟩ := h30
        refine aw_if_ne (tgt := 38) dX9_man_33 (by decide) (fun h33 => ?_) (fun h33 => ?_)
        · replace h33 := b2i_n.mp h33
          have hj := isJ_in hI h33
          refine aw_aload_n dX9_man_38 rfl ?_
          refine aw_iload_n dX9_man_39 rfl ?_
          refine aw_iload dX9_man_40 rfl ?_
          refine aw_V2i (kc' := 0) (ks' := 0) dX9_man_42 cs_X9_139_10 hR.1 (r_canGo hR (by assumption)) rfl (Nat.le_of_ble_eq_true rfl) (fun x42 M42 h42 => ?_)
          obtain ⟨rfl, rfl⟩ := h42
          refine aw_if_ne (tgt := 51) dX9_man_45 (by decide) (fun h45 => ?_) (fun h45 => ?_)
          · replace h45 := b2i_n.mp h45
            refine aw_aload_n dX9_man_51 rfl ?_
            refine aw_get dX9_man_52 fg_X9_126_10 hR.1 rfl ?_
            refine aw_bipush (v := 10) dX9_man_55 (by decide) ?_
            refine aw_icmp_ne (tgt := 63) dX9_man_57 (by decide) (fun h57 => ?_) (fun h57 => ?_)
            · have hv : vp_in (σ.1 12) 10 := (by rw [vp_in_iff]; have := hI.2.2.1; have := ne_toInt h57; rw [t_10] at this; omega)
              refine aw_aload_n dX9_man_63 rfl ?_
              refine aw_get dX9_man_64 fg_X9_41_10 hR.1 rfl ?_
              refine aw_aload_n dX9_man_67 rfl ?_
              refine aw_get dX9_man_68 fg_X9_126_10 hR.1 rfl ?_
              refine aw_iload_n dX9_man_71 rfl ?_
              refine rw_iast_13 dX9_man_72 (by first | assumption | (unfold vp_in; decide)) hR hK (fun M hR hK => ?_)
              refine aw_aload_n dX9_man_73 rfl ?_
              refine aw_get dX9_man_74 fg_X9_44_10 hR.1 rfl ?_
              refine aw_aload_n dX9_man_77 rfl ?_
              refine aw_get dX9_man_78 fg_X9_126_10 hR.1 rfl ?_
              refine aw_iload_n dX9_man_81 rfl ?_
              refine rw_iast_14 dX9_man_82 (by first | assumption | (unfold vp_in; decide)) hR hK (fun M hR hK => ?_)
              refine aw_aload_n dX9_man_83 rfl ?_
              refine aw_get dX9_man_84 fg_X9_47_10 hR.1 rfl ?_
              refine aw_aload_n dX9_man_87 rfl ?_
              refine aw_get dX9_man_88 fg_X9_126_10 hR.1 rfl ?_
              refine aw_iload_n dX9_man_91 rfl ?_
              refine rw_iast_15 dX9_man_92 (by first | assumption | (unfold vp_in; decide)) hR hK (fun M hR hK => ?_)
              refine aw_aload_n dX9_man_93 rfl ?_
              refine aw_get dX9_man_94 fg_X9_50_10 hR.1 rfl ?_
              refine aw_aload_n dX9_man_97 rfl ?_
              refine aw_get dX9_man_98 fg_X9_126_10 hR.1 rfl ?_
              refine aw_iload dX9_man_101 rfl ?_
              refine rw_iast_16 dX9_man_103 (by first | assumption | (unfold vp_in; decide)) hR hK (fun M hR hK => ?_)
              refine aw_aload_n dX9_man_104 rfl ?_
              refine aw_get dX9_man_105 fg_X9_56_10 hR.1 rfl ?_
              refine aw_aload_n dX9_man_108 rfl ?_
              refine aw_get dX9_man_109 fg_X9_126_10 hR.1 rfl ?_
              refine aw_iconst (v := 2) dX9_man_112 (by decide) ?_
              refine rw_iast_18 dX9_man_113 (by first | assumption | (unfold vp_in; decide)) hR hK (fun M hR hK => ?_)
              refine aw_aload_n dX9_man_114 rfl ?_
              refine aw_aload_n dX9_man_115 rfl ?_
              refine aw_get dX9_man_116 fg_X9_126_10 hR.1 rfl ?_
              refine aw_V1v (kc' := 0) (ks' := 0) dX9_man_119 cs_X9_142_10 hR.1 (r_joinRow hR (by assumption)) rfl (Nat.le_of_ble_eq_true rfl) (fun M119 h119 => ?_)
              obtain ⟨hR, hK119⟩ := h119
              replace hK := hK.tr hK119
              refine aw_aload_n dX9_man_122 rfl ?_
              refine aw_dup dX9_man_123 rfl ?_
              refine aw_get dX9_man_124 fg_X9_126_10 hR.1 rfl ?_
              refine aw_iconst (v := 1) dX9_man_127 (by decide) ?_
              refine aw_iadd dX9_man_128 ?_
              refine rw_put_12 dX9_man_129 fl_X9_126_10 hR hK (fun M hR hK => ?_)
              refine aw_aload_n dX9_man_132 rfl ?_
              refine aw_get dX9_man_133 fg_X9_126_10 hR.1 rfl ?_
              refine aw_iconst (v := 1) dX9_man_136 (by decide) ?_
              refine aw_isub dX9_man_137 ?_
              exact aw_iret dX9_man_138 rfl (by refine ⟨?_, ?_, hK⟩ <;> simp only [f_man, *, ↓reduceIte, Bool.false_eq_true, Bool.and_self, Bool.and_true, Bool.and_false, Bool.false_and, Bool.true_and, Bool.or_true, Bool.true_or, Bool.or_false, Bool.false_or, reduceCtorEq, not_true_eq_false, not_false_eq_true] <;> first | rfl | exact hR)
            · refine aw_bipush (v := -3) dX9_man_60 (by decide) ?_
              exact aw_iret dX9_man_62 rfl (by refine ⟨?_, ?_, hK⟩ <;> simp only [f_man, *, ↓reduceIte, Bool.false_eq_true, Bool.and_self, Bool.and_true, Bool.and_false, Bool.false_and, Bool.true_and, Bool.or_true, Bool.true_or, Bool.or_false, Bool.false_or, reduceCtorEq, not_true_eq_false, not_false_eq_true] <;> first | rfl | exact hR)
          · replace h45 := b2i_0.mp h45
            refine aw_bipush (v := -2) dX9_man_48 (by decide) ?_
            exact aw_iret dX9_man_50 rfl (by refine ⟨?_, ?_, hK⟩ <;> simp only [f_man, *, ↓reduceIte, Bool.false_eq_true, Bool.and_self, Bool.and_true, Bool.and_false, Bool.false_and, Bool.true_and, Bool.or_true, Bool.true_or, Bool.or_false, Bool.false_or, reduceCtorEq, not_true_eq_false, not_false_eq_true] <;> first | rfl | exact hR)
        · replace h33 := b2i_0.mp h33
          refine aw_iconst (v := -1) dX9_man_36 (by decide) ?_
          exact aw_iret dX9_man_37 rfl (by refine ⟨?_, ?_, hK⟩ <;> simp only [f_man, *, ↓reduceIte, Bool.false_eq_true, Bool.and_self, Bool.and_true, Bool.and_false, Bool.false_and, Bool.true_and, Bool.or_true, Bool.true_or, Bool.or_false, Bool.false_or, reduceCtorEq, not_true_eq_false, not_false_eq_true] <;> first | rfl | exact hR)
set_option maxRecDepth 100000 in
set_option maxHeartbeats 4000000 in
theorem r_moves {l : Launch} {g : ab_G} {M : ab_M} {a0 : Nat} {ρ : Nat → Nat} {σ : rS} (hR : RR g M a0 ρ σ) (hI : rI σ) {m f j : Int32} : AM l g Y_X9_moves 2 43 0 0 [.ref a0, .int m, .int f, .int j] M (ab_Qi (fun x M' => x = (f_moves σ m f j).1 ∧ RR g M' a0 ρ (f_moves σ m f j).2 ∧ KR M M')) := by
  refine AM.of [some (.ref a0), some (.int m), some (.int f), some (.int j)] (by decide +kernel) (Nat.le_of_ble_eq_true rfl) rfl ?_
  have hK : KR M M := KR.rf
  refine aw_aload_n dX9_moves_0 rfl ?_
  refine aw_iload_n dX9_moves_1 rfl ?_
  refine aw_V1i (kc' := 0) (ks' := 0) dX9_moves_2 cs_X9_146_10 hR.1 (r_isMan hR) rfl (Nat.le_of_ble_eq_true rfl) (fun x2 M2 h2 => ?_)
  obtain ⟨rfl, rfl⟩ := h2
  refine aw_if_eq (tgt := 24) dX9_moves_5 (by decide) (fun h5 => ?_) (fun h5 => ?_)
  · replace h5 := b2i_0.mp h5
    refine aw_iconst (v := -1) dX9_moves_24 (by decide) ?_
    exact aw_iret dX9_moves_25 rfl (by refine ⟨?_, ?_, hK⟩ <;> simp only [f_moves, *, ↓reduceIte, Bool.false_eq_true, Bool.and_self, Bool.and_true, Bool.and_false, Bool.false_and, Bool.true_and, Bool.or_true, Bool.true_or, Bool.or_false, Bool.false_or, reduceCtorEq, not_true_eq_false, not_false_eq_true] <;> first | rfl | exact hR)
  · replace h5 := b2i_n.mp h5
    have hm := isM_in hI h5
    refine aw_aload_n dX9_moves_8 rfl ?_
    refine aw_iload_n dX9_moves_9 rfl ?_
    refine aw_V1i (kc' := 0) (ks' := 0) dX9_moves_10 cs_X9_136_10 hR.1 (r_isFountain hR) rfl (Nat.le_of_ble_eq_true rfl) (fun x10 M10 h10 => ?_)
    obtain ⟨rfl, rfl⟩ := h10
    refine aw_if_eq (tgt := 24) dX9_moves_13 (by decide) (fun h13 => ?_) (fun h13 => ?_)
    · replace h13 := b2i_0.mp h13
      refine aw_iconst (v := -1) dX9_moves_24 (by decide) ?_
      exact aw_iret dX9_moves_25 rfl (by refine ⟨?_, ?_, hK⟩ <;> simp only [f_moves, *, ↓reduceIte, Bool.false_eq_true, Bool.and_self, Bool.and_true, Bool.and_false, Bool.false_and, Bool.true_and, Bool.or_true, Bool.true_or, Bool.or_false, Bool.false_or, reduceCtorEq, not_true_eq_false, not_false_eq_true] <;> first | rfl | exact hR)
    · replace h13 := b2i_n.mp h13
      refine aw_aload_n dX9_moves_16 rfl ?_
      refine aw_iload_n dX9_moves_17 rfl ?_
      refine aw_V1i (kc' := 0) (ks' := 0) dX9_moves_18 cs_X9_129_10 hR.1 (r_isJar hR) rfl (Nat.le_of_ble_eq_true rfl) (fun x18 M18 h18 => ?_)
      obtain ⟨rfl, rfl⟩ := h18
      refine aw_if_ne (tgt := 26) dX9_moves_21 (by decide) (fun h21 => ?_) (fun h21 => ?_)
      · replace h21 := b2i_n.mp h21
        have hj := isJ_in hI h21
        refine aw_aload_n dX9_moves_26 rfl ?_
        refine aw_get dX9_moves_27 fg_X9_59_10 hR.1 rfl ?_
        refine aw_iload_n dX9_moves_30 rfl ?_
        refine aw_iald dX9_moves_31 (rr_19 hR) (by first | assumption | (unfold vp_in; decide)) ?_
        refine aw_if_ne (tgt := 49) dX9_moves_32 (by decide) (fun h32 => ?_) (fun h32 => ?_)
        · refine aw_bipush (v := -2) dX9_moves_49 (by decide) ?_
          exact aw_iret dX9_moves_51 rfl (by refine ⟨?_, ?_, hK⟩ <;> simp only [f_moves, *, ↓reduceIte, Bool.false_eq_true, Bool.and_self, Bool.and_true, Bool.and_false, Bool.false_and, Bool.true_and, Bool.or_true, Bool.true_or, Bool.or_false, Bool.false_or, reduceCtorEq, not_true_eq_false, not_false_eq_true] <;> first | rfl | exact hR)
        · refine aw_aload_n dX9_moves_35 rfl ?_
          refine aw_aload_n dX9_moves_36 rfl ?_
          refine aw_get dX9_moves_37 fg_X9_41_10 hR.1 rfl ?_
          refine aw_iload_n dX9_moves_40 rfl ?_
          refine aw_iald dX9_moves_41 (rr_13 hR) (by first | assumption | (unfold vp_in; decide)) ?_
          refine aw_iload_n dX9_moves_42 rfl ?_
          refine aw_V2i (kc' := 0) (ks' := 0) dX9_moves_43 cs_X9_139_10 hR.1 (r_canGo hR (by assumption)) rfl (Nat.le_of_ble_eq_true rfl) (fun x43 M43 h43 => ?_)
          obtain ⟨rfl, rfl⟩ := h43
          refine aw_if_ne (tgt := 52) dX9_moves_46 (by decide) (fun h46 => ?_) (fun h46 => ?_)
          · replace h46 := b2i_n.mp h46
            refine aw_aload_n dX9_moves_52 rfl ?_
            refine aw_get dX9_moves_53 fg_X9_47_10 hR.1 rfl ?_
            refine aw_iload_n dX9_moves_56 rfl ?_
            refine aw_iload_n dX9_moves_57 rfl ?_
            refine rw_iast_15 dX9_moves_58 (by first | assumption | (unfold vp_in; decide)) hR hK (fun M hR hK => ?_)
            refine aw_aload_n dX9_moves_59 rfl ?_
            refine aw_get dX9_moves_60 fg_X9_50_10 hR.1 rfl ?_
            refine aw_iload_n dX9_moves_63 rfl ?_
            refine aw_iload_n dX9_moves_64 rfl ?_
            refine rw_iast_16 dX9_moves_65 (by first | assumption | (unfold vp_in; decide)) hR hK (fun M hR hK => ?_)
            refine aw_aload_n dX9_moves_66 rfl ?_
            refine aw_iload_n dX9_moves_67 rfl ?_
            refine aw_V1v (kc' := 0) (ks' := 0) dX9_moves_68 cs_X9_142_10 hR.1 (r_joinRow hR (by assumption)) rfl (Nat.le_of_ble_eq_true rfl) (fun M68 h68 => ?_)
            obtain ⟨hR, hK68⟩ := h68
            replace hK := hK.tr hK68
            refine aw_iconst (v := 1) dX9_moves_71 (by decide) ?_
            exact aw_iret dX9_moves_72 rfl (by refine ⟨?_, ?_, hK⟩ <;> simp only [f_moves, *, ↓reduceIte, Bool.false_eq_true, Bool.and_self, Bool.and_true, Bool.and_false, Bool.false_and, Bool.true_and, Bool.or_true, Bool.true_or, Bool.or_false, Bool.false_or, reduceCtorEq, not_true_eq_false, not_false_eq_true] <;> first | rfl | exact hR)
          · replace h46 := b2i_0.mp h46
            refine aw_bipush (v := -2) dX9_moves_49 (by decide) ?_
            exact aw_iret dX9_moves_51 rfl (by refine ⟨?_, ?_, hK⟩ <;> simp only [f_moves, *, ↓reduceIte, Bool.false_eq_true, Bool.and_self, Bool.and_true, Bool.and_false, Bool.false_and, Bool.true_and, Bool.or_true, Bool.true_or, Bool.or_false, Bool.false_or, reduceCtorEq, not_true_eq_false, not_false_eq_true] <;> first | rfl | exact hR)
      · replace h21 := b2i_0.mp h21
        refine aw_iconst (v := -1) dX9_moves_24 (by decide) ?_
        exact aw_iret dX9_moves_25 rfl (by refine ⟨?_, ?_, hK⟩ <;> simp only [f_moves, *, ↓reduceIte, Bool.false_eq_true, Bool.and_self, Bool.and_true, Bool.and_false, Bool.false_and, Bool.true_and, Bool.or_true, Bool.true_or, Bool.or_false, Bool.false_or, reduceCtorEq, not_true_eq_false, not_false_eq_true] <;> first | rfl | exact hR)
def q_more (σ : rS) (f : Int32) : Int32 := rg σ 1 f * σ.1 27 / 100
def q_off (σ : rS) (f : Int32) : Int32 := if rg σ 2 f + q_more σ f - 300 ≤ 0 then 0 else rg σ 2 f + q_more σ f - 300
def f_flow (σ : rS) (f : Int32) : rS := rl (rl (rp (rp σ 2 f (rg σ 2 f + (q_more σ f - q_off σ f))) 4 f (rg σ 4 f + q_off σ f)) 0 (σ.2.2 0 + (q_more σ f).toInt64)) 1 (σ.2.2 1 + (q_off σ f).toInt64)
set_option maxRecDepth 100000 in
set_option maxHeartbeats 4000000 in
theorem r_flow {l : Launch} {g : ab_G} {M : ab_M} {a0 : Nat} {ρ : Nat → Nat} {σ : rS} (hR : RR g M a0 ρ σ) {f : Int32} (hf : vp_in f 4) : AM l g Y_X9_flow 0 0 0 0 [.ref a0, .int f] M (ab_Qv (fun M' => RR g M' a0 ρ (f_flow σ f) ∧ KR M M')) := by
  refine AM.of [some (.ref a0), some (.int f), none, none] (by decide +kernel) (Nat.le_of_ble_eq_true rfl) rfl ?_
  have hK : KR M M := KR.rf
  refine aw_aload_n dX9_flow_0 rfl ?_
  refine aw_get dX9_flow_1 fg_X9_7_10 hR.1 rfl ?_
  refine aw_iload_n dX9_flow_4 rfl ?_
  refine aw_iald dX9_flow_5 (rr_1 hR) (by first | assumption | (unfold vp_in; decide)) ?_
  refine aw_aload_n dX9_flow_6 rfl ?_
  refine aw_get dX9_flow_7 fg_X9_80_10 hR.1 rfl ?_
  refine aw_imul dX9_flow_10 ?_
  refine aw_bipush (v := 100) dX9_flow_11 (by decide) ?_
  refine aw_idiv dX9_flow_13 (by decide) ?_
  refine aw_istore_n dX9_flow_14 rfl (by decide) ?_
  refine aw_aload_n dX9_flow_15 rfl ?_
  refine aw_get dX9_flow_16 fg_X9_13_10 hR.1 rfl ?_
  refine aw_iload_n dX9_flow_19 rfl ?_
  refine aw_iald dX9_flow_20 (rr_2 hR) (by first | assumption | (unfold vp_in; decide)) ?_
  refine aw_iload_n dX9_flow_21 rfl ?_
  refine aw_iadd dX9_flow_22 ?_
  refine aw_sipush (v := 300) dX9_flow_23 (by decide) ?_
  refine aw_isub dX9_flow_26 ?_
  refine aw_istore_n dX9_flow_27 rfl (by decide) ?_
  refine aw_iload_n dX9_flow_28 rfl ?_
  refine aw_if_le (tgt := 36) dX9_flow_29 (by decide) (fun h29 => ?_) (fun h29 => ?_)
  · refine aw_iconst (v := 0) dX9_flow_36 (by decide) ?_
    refine aw_istore_n dX9_flow_37 rfl (by decide) ?_
    refine aw_aload_n dX9_flow_38 rfl ?_
    refine aw_get dX9_flow_39 fg_X9_13_10 hR.1 rfl ?_
    refine aw_iload_n dX9_flow_42 rfl ?_
    refine aw_dup2 dX9_flow_43 rfl rfl ?_
    refine aw_iald dX9_flow_44 (rr_2 hR) (by first | assumption | (unfold vp_in; decide)) ?_
    refine aw_iload_n dX9_flow_45 rfl ?_
    refine aw_iload_n dX9_flow_46 rfl ?_
    refine aw_isub dX9_flow_47 ?_
    refine aw_iadd dX9_flow_48 ?_
    refine rw_iast_2 dX9_flow_49 (by first | assumption | (unfold vp_in; decide)) hR hK (fun M hR hK => ?_)
    refine aw_aload_n dX9_flow_50 rfl ?_
    refine aw_get dX9_flow_51 fg_X9_20_10 hR.1 rfl ?_
    refine aw_iload_n dX9_flow_54 rfl ?_
    refine aw_dup2 dX9_flow_55 rfl rfl ?_
    refine aw_iald dX9_flow_56 (rr_4 hR) (by first | assumption | (unfold vp_in; decide)) ?_
    refine aw_iload_n dX9_flow_57 rfl ?_
    refine aw_iadd dX9_flow_58 ?_
    refine rw_iast_4 dX9_flow_59 (by first | assumption | (unfold vp_in; decide)) hR hK (fun M hR hK => ?_)
    refine aw_aload_n dX9_flow_60 rfl ?_
    refine aw_get dX9_flow_61 fg_X9_84_10 hR.1 rfl ?_
    refine aw_iconst (v := 0) dX9_flow_64 (by decide) ?_
    refine aw_dup2 dX9_flow_65 rfl rfl ?_
    refine aw_lald dX9_flow_66 (rr_29 hR) (by first | assumption | (unfold vp_in; decide)) ?_
    refine aw_iload_n dX9_flow_67 rfl ?_
    refine aw_i2l dX9_flow_68 ?_
    refine aw_ladd dX9_flow_69 ?_
    refine rw_last_29 dX9_flow_70 (by first | assumption | (unfold vp_in; decide)) hR hK (fun M hR hK => ?_)
    refine aw_aload_n dX9_flow_71 rfl ?_
    refine aw_get dX9_flow_72 fg_X9_84_10 hR.1 rfl ?_
    refine aw_iconst (v := 1) dX9_flow_75 (by decide) ?_
    refine aw_dup2 dX9_flow_76 rfl rfl ?_
    refine aw_lald dX9_flow_77 (rr_29 hR) (by first | assumption | (unfold vp_in; decide)) ?_
    refine aw_iload_n dX9_flow_78 rfl ?_
    refine aw_i2l dX9_flow_79 ?_
    refine aw_ladd dX9_flow_80 ?_
    refine rw_last_29 dX9_flow_81 (by first | assumption | (unfold vp_in; decide)) hR hK (fun M hR hK => ?_)
    exact aw_vret dX9_flow_82 rfl ⟨by first | (have e : q_off σ f = 0 := if_pos h29; simp only [f_flow, e]; exact hR) | (have e : q_off σ f = rg σ 2 f + q_more σ f - 300 := if_neg h29; simp only [f_flow, e]; exact hR), hK⟩
  · refine aw_iload_n dX9_flow_32 rfl ?_
    refine aw_goto (tgt := 37) dX9_flow_33 (by decide) ?_
    refine aw_istore_n dX9_flow_37 rfl (by decide) ?_
    refine aw_aload_n dX9_flow_38 rfl ?_
    refine aw_get dX9_flow_39 fg_X9_13_10 hR.1 rfl ?_
    refine aw_iload_n dX9_flow_42 rfl ?_
    refine aw_dup2 dX9_flow_43 rfl rfl ?_
    refine aw_iald dX9_flow_44 (rr_2 hR) (by first | assumption | (unfold vp_in; decide)) ?_
    refine aw_iload_n dX9_flow_45 rfl ?_
    refine aw_iload_n dX9_flow_46 rfl ?_
    refine aw_isub dX9_flow_47 ?_
    refine aw_iadd dX9_flow_48 ?_
    refine rw_iast_2 dX9_flow_49 (by first | assumption | (unfold vp_in; decide)) hR hK (fun M hR hK => ?_)
    refine aw_aload_n dX9_flow_50 rfl ?_
    refine aw_get dX9_flow_51 fg_X9_20_10 hR.1 rfl ?_
    refine aw_iload_n dX9_flow_54 rfl ?_
    refine aw_dup2 dX9_flow_55 rfl rfl ?_
    refine aw_iald dX9_flow_56 (rr_4 hR) (by first | assumption | (unfold vp_in; decide)) ?_
    refine aw_iload_n dX9_flow_57 rfl ?_
    refine aw_iadd dX9_flow_58 ?_
    refine rw_iast_4 dX9_flow_59 (by first | assumption | (unfold vp_in; decide)) hR hK (fun M hR hK => ?_)
    refine aw_aload_n dX9_flow_60 rfl ?_
    refine aw_get dX9_flow_61 fg_X9_84_10 hR.1 rfl ?_
    refine aw_iconst (v := 0) dX9_flow_64 (by decide) ?_
    refine aw_dup2 dX9_flow_65 rfl rfl ?_
    refine aw_lald dX9_flow_66 (rr_29 hR) (by first | assumption | (unfold vp_in; decide)) ?_
    refine aw_iload_n dX9_flow_67 rfl ?_
    refine aw_i2l dX9_flow_68 ?_
    refine aw_ladd dX9_flow_69 ?_
    refine rw_last_29 dX9_flow_70 (by first | assumption | (unfold vp_in; decide)) hR hK (fun M hR hK => ?_)
    refine aw_aload_n dX9_flow_71 rfl ?_
    refine aw_get dX9_flow_72 fg_X9_84_10 hR.1 rfl ?_
    refine aw_iconst (v := 1) dX9_flow_75 (by decide) ?_
    refine aw_dup2 dX9_flow_76 rfl rfl ?_
    refine aw_lald dX9_flow_77 (rr_29 hR) (by first | assumption | (unfold vp_in; decide)) ?_
    refine aw_iload_n dX9_flow_78 rfl ?_
    refine aw_i2l dX9_flow_79 ?_
    refine aw_ladd dX9_flow_80 ?_
    refine rw_last_29 dX9_flow_81 (by first | assumption | (unfold vp_in; decide)) hR hK (fun M hR hK => ?_)
    exact aw_vret dX9_flow_82 rfl ⟨by first | (have e : q_off σ f = 0 := if_pos h29; simp only [f_flow, e]; exact hR) | (have e : q_off σ f = rg σ 2 f + q_more σ f - 300 := if_neg h29; simp only [f_flow, e]; exact hR), hK⟩
def k_shift (i : Nat) (σ : rS) : rS := rp σ 36 (nI i - 6) (rg σ 36 (nI i))
def f_keep1 (σ : rS) : rS := if σ.1 35 = 100 then rs (lp k_shift 6 594 σ) 35 (σ.1 35 - 1) else σ
def f_keep2 (σ : rS) (m j v : Int32) : rS := rs (rp (rp (rp (rp (rp (rp σ 36 (6 * σ.1 35) m) 36 (6 * σ.1 35 + 1) j) 36 (6 * σ.1 35 + 2) v) 36 (6 * σ.1 35 + 3) (σ.1 28)) 36 (6 * σ.1 35 + 4) (rg σ 24 m)) 36 (6 * σ.1 35 + 5) (rg σ 25 m)) 35 (σ.1 35 + 1)
def f_keep (σ : rS) (m j v : Int32) : rS := f_keep2 (f_keep1 σ) m j v
theorem k_shift_sc (n i : Nat) (σ : rS) : (lp k_shift i n σ).1 = σ.1 ∧ (lp k_shift i n σ).2.2 = σ.2.2 ∧ ∀ k, k ≠ 36 → (lp k_shift i n σ).2.1 k = σ.2.1 k := by
  refine lp_inv (φ := k_shift) (fun _ s => s.1 = σ.1 ∧ s.2.2 = σ.2.2 ∧ ∀ k, k ≠ 36 → s.2.1 k = σ.2.1 k) n i σ ⟨rfl, rfl, fun _ _ => rfl⟩ ?_
  rintro j s - - ⟨h1, h2, h3⟩
  refine ⟨h1, h2, fun k hk => ?_⟩
  rw [← h3 k hk]
  simp [k_shift, ra, hk]
theorem in_kept {x : Int32} (h0 : 0 ≤ x.toInt) (h1 : x.toInt < 100) : vp_in (6 * x) 600 ∧ vp_in (6 * x + 1) 600 ∧ vp_in (6 * x + 2) 600 ∧ vp_in (6 * x + 3) 600 ∧ vp_in (6 * x + 4) 600 ∧ vp_in (6 * x + 5) 600 := by
  have t6 : (6 : Int32).toInt = 6 := by decide
  have e1 : (6 * x).toInt = 6 * x.toInt := by rw [fb_mulI (by rw [t6]; omega) (by rw [t6]; omega), t6]
  have hh : ∀ c : Int32, 0 ≤ c.toInt → c.toInt < 6 → (6 * x + c).toInt = 6 * x.toInt + c.toInt := by
    intro c h2 h3
    rw [fb_addI (by omega) (by omega), e1]
  have t1 : (1 : Int32).toInt = 1 := by decide
  have t2 : (2 : Int32).toInt = 2 := by decide
  have t3 : (3 : Int32).toInt = 3 := by decide
  have t4 : (4 : Int32).toInt = 4 := by decide
  have t5 : (5 : Int32).toInt = 5 := by decide
  simp only [vp_in_iff, e1, hh 1 (by omega) (by omega), hh 2 (by omega) (by omega), hh 3 (by omega) (by omega), hh 4 (by omega) (by omega), hh 5 (by omega) (by omega), t1, t2, t3, t4, t5]
  omega
theorem in_m6 {i : Nat} (h : 6 ≤ i) (h2 : i < 600) : vp_in (nI i - 6) 600 := by
  rw [show (6 : Int32) = nI 6 from rfl, pk_sub h]
  exact vp_in_nI (by omega) (by omega)
set_option maxRecDepth 100000 in
set_option maxHeartbeats 4000000 in
theorem r_keep {l : Launch} {g : ab_G} {M : ab_M} {a0 : Nat} {ρ : Nat → Nat} {σ : rS} (hR : RR g M a0 ρ σ) (hI : rI σ) {m j v : Int32} (hm : vp_in m 10) : AM l g Y_X9_keep 0 0 0 0 [.ref a0, .int m, .int j, .int v] M (ab_Qv (fun M' => RR g M' a0 ρ (f_keep2 (f_keep1 σ) m j v) ∧ KR M M')) := by
  refine AM.of [some (.ref a0), some (.int m), some (.int j), some (.int v), none] (by decide +kernel) (Nat.le_of_ble_eq_true rfl) rfl ?_
  have fin : ∀ M9, rP g a0 ρ M (f_keep1 σ) M9 → ∀ z : Option Value, AW l g ab_X0 (ab_Z g (ab_Qv (fun M' => RR g M' a0 ρ (f_keep2 (f_keep1 σ) m j v) ∧ KR M M'))) Y_X9_keep 0 0 0 0 54 [some (.ref a0), some (.int m), some (.int j), some (.int v), z] [] M9 := by
    rintro M9 ⟨hR, hK⟩ z
    have h35 : 0 ≤ ((f_keep1 σ).1 35).toInt ∧ ((f_keep1 σ).1 35).toInt < 100 := by
      have := hI.2.2.2.2.1
      unfold f_keep1
      split
      · next h => rw [show (rs (lp k_shift 6 594 σ) 35 (σ.1 35 - 1)).1 35 = σ.1 35 - 1 from rfl, h]; decide
      · next h => have := ne_toInt h; rw [show (100 : Int32).toInt = 100 by decide] at this; omega
    obtain ⟨i0, i1, i2, i3, i4, i5⟩ := in_kept h35.1 h35.2
    generalize f_keep1 σ = σ1 at hR i0 i1 i2 i3 i4 i5 ⊢
    refine aw_bipush (v := 6) dX9_keep_54 (by decide) ?_
    refine aw_aload_n dX9_keep_56 rfl ?_
    refine aw_get dX9_keep_57 fg_X9_185_10 hR.1 rfl ?_
    refine aw_imul dX9_keep_60 ?_
    refine aw_istore dX9_keep_61 rfl (by decide) ?_
    refine aw_aload_n dX9_keep_63 rfl ?_
    refine aw_get dX9_keep_64 fg_X9_97_10 hR.1 rfl ?_
    refine aw_iload dX9_keep_67 rfl ?_
    refine aw_iload_n dX9_keep_69 rfl ?_
    refine rw_iast_36 dX9_keep_70 (by first | assumption | (unfold vp_in; decide)) hR hK (fun M hR hK => ?_)
    refine aw_aload_n dX9_keep_71 rfl ?_
    refine aw_get dX9_keep_72 fg_X9_97_10 hR.1 rfl ?_
    refine aw_iload dX9_keep_75 rfl ?_
    refine aw_iconst (v := 1) dX9_keep_77 (by decide) ?_
    refine aw_iadd dX9_keep_78 ?_
    refine aw_iload_n dX9_keep_79 rfl ?_
    refine rw_iast_36 dX9_keep_80 (by first | assumption | (unfold vp_in; decide)) hR hK (fun M hR hK => ?_)
    refine aw_aload_n dX9_keep_81 rfl ?_
    refine aw_get dX9_keep_82 fg_X9_97_10 hR.1 rfl ?_
    refine aw_iload dX9_keep_85 rfl ?_
    refine aw_iconst (v := 2) dX9_keep_87 (by decide) ?_
    refine aw_iadd dX9_keep_88 ?_
    refine aw_iload_n dX9_keep_89 rfl ?_
    refine rw_iast_36 dX9_keep_90 (by first | assumption | (unfold vp_in; decide)) hR hK (fun M hR hK => ?_)
    refine aw_aload_n dX9_keep_91 rfl ?_
    refine aw_get dX9_keep_92 fg_X9_97_10 hR.1 rfl ?_
    refine aw_iload dX9_keep_95 rfl ?_
    refine aw_iconst (v := 3) dX9_keep_97 (by decide) ?_
    refine aw_iadd dX9_keep_98 ?_
    refine aw_aload_n dX9_keep_99 rfl ?_
    refine aw_get dX9_keep_100 fg_X9_178_10 hR.1 rfl ?_
    refine rw_iast_36 dX9_keep_103 (by first | assumption | (unfold vp_in; decide)) hR hK (fun M hR hK => ?_)
    refine aw_aload_n dX9_keep_104 rfl ?_
    refine aw_get dX9_keep_105 fg_X9_97_10 hR.1 rfl ?_
    refine aw_iload dX9_keep_108 rfl ?_
    refine aw_iconst (v := 4) dX9_keep_110 (by decide) ?_
    refine aw_iadd dX9_keep_111 ?_
    refine aw_aload_n dX9_keep_112 rfl ?_
    refine aw_get dX9_keep_113 fg_X9_74_10 hR.1 rfl ?_
    refine aw_iload_n dX9_keep_116 rfl ?_
    refine aw_iald dX9_keep_117 (rr_24 hR) (by first | assumption | (unfold vp_in; decide)) ?_
    refine rw_iast_36 dX9_keep_118 (by first | assumption | (unfold vp_in; decide)) hR hK (fun M hR hK => ?_)
    refine aw_aload_n dX9_keep_119 rfl ?_
    refine aw_get dX9_keep_120 fg_X9_97_10 hR.1 rfl ?_
    refine aw_iload dX9_keep_123 rfl ?_
    refine aw_iconst (v := 5) dX9_keep_125 (by decide) ?_
    refine aw_iadd dX9_keep_126 ?_
    refine aw_aload_n dX9_keep_127 rfl ?_
    refine aw_get dX9_keep_128 fg_X9_77_10 hR.1 rfl ?_
    refine aw_iload_n dX9_keep_131 rfl ?_
    refine aw_iald dX9_keep_132 (rr_25 hR) (by first | assumption | (unfold vp_in; decide)) ?_
    refine rw_iast_36 dX9_keep_133 (by first | assumption | (unfold vp_in; decide)) hR hK (fun M hR hK => ?_)
    refine aw_aload_n dX9_keep_134 rfl ?_
    refine aw_dup dX9_keep_135 rfl ?_
    refine aw_get dX9_keep_136 fg_X9_185_10 hR.1 rfl ?_
    refine aw_iconst (v := 1) dX9_keep_139 (by decide) ?_
    refine aw_iadd dX9_keep_140 ?_
    refine rw_put_35 dX9_keep_141 fl_X9_185_10 hR hK (fun M hR hK => ?_)
    exact aw_vret dX9_keep_144 rfl ⟨hR, hK⟩
  refine aw_aload_n dX9_keep_0 rfl ?_
  refine aw_get dX9_keep_1 fg_X9_185_10 hR.1 rfl ?_
  refine aw_bipush (v := 100) dX9_keep_4 (by decide) ?_
  refine aw_icmp_ne (tgt := 54) dX9_keep_6 (by decide) (fun h6 => ?_) (fun h6 => ?_)
  · exact fin M ⟨by rw [f_keep1, if_neg h6]; exact hR, KR.rf⟩ none
  · refine aw_bipush (v := 6) dX9_keep_9 (by decide) ?_
    refine aw_istore dX9_keep_11 rfl (by decide) ?_
    refine gl (rP g a0 ρ M) (fun i s M' => AW l g ab_X0 (ab_Z g (ab_Qv (fun M' => RR g M' a0 ρ (f_keep2 (f_keep1 σ) m j v) ∧ KR M M'))) Y_X9_keep 0 0 0 0 13 [some (.ref a0), some (.int m), some (.int j), some (.int v), some (.int (nI i))] [] M') k_shift (fun i _ => 6 ≤ i) 600 (fun i s h1 h2 => by omega) ?_ 594 6 σ M rfl (Nat.le_refl _) ⟨hR, KR.rf⟩ ?_
    · intro i s M9 h1 h2 hp kk
      obtain ⟨hR, hK⟩ := hp
      have hi1 := in_m6 h2 h1
      have hi2 : vp_in (nI i) 600 := vp_in_nI h1 (by omega)
      refine aw_iload dX9_keep_13 rfl ?_
      refine aw_sipush (v := 600) dX9_keep_15 (by decide) ?_
      refine aw_icmp_ge (tgt := 44) dX9_keep_18 (by decide) (fun h18 => absurd h18 (by rw [show (600 : Int32) = nI 600 from rfl]; exact nI_ge h1 (by omega))) (fun h18 => ?_)
      refine aw_aload_n dX9_keep_21 rfl ?_
      refine aw_get dX9_keep_22 fg_X9_97_10 hR.1 rfl ?_
      refine aw_iload dX9_keep_25 rfl ?_
      refine aw_bipush (v := 6) dX9_keep_27 (by decide) ?_
      refine aw_isub dX9_keep_29 ?_
      refine aw_aload_n dX9_keep_30 rfl ?_
      refine aw_get dX9_keep_31 fg_X9_97_10 hR.1 rfl ?_
      refine aw_iload dX9_keep_34 rfl ?_
      refine aw_iald dX9_keep_36 (rr_36 hR) (by first | assumption | (unfold vp_in; decide)) ?_
      refine rw_iast_36 dX9_keep_37 (by first | assumption | (unfold vp_in; decide)) hR hK (fun M hR hK => ?_)
      refine aw_iinc dX9_keep_38 rfl (ii_1 i) rfl (by decide) ?_
      refine aw_goto (tgt := 13) dX9_keep_41 (by decide) ?_
      exact kk _ ⟨hR, hK⟩ (by omega)
    · intro M9 hp _
      obtain ⟨hR, hK⟩ := hp
      refine aw_iload dX9_keep_13 rfl ?_
      refine aw_sipush (v := 600) dX9_keep_15 (by decide) ?_
      refine aw_icmp_ge (tgt := 44) dX9_keep_18 (by decide) (fun h18 => ?_) (fun h18 => absurd (by rw [show (600 : Int32) = nI 600 from rfl]; exact Int32.le_refl _) h18)
      refine aw_aload_n dX9_keep_44 rfl ?_
      refine aw_dup dX9_keep_45 rfl ?_
      refine aw_get dX9_keep_46 fg_X9_185_10 hR.1 rfl ?_
      refine aw_iconst (v := 1) dX9_keep_49 (by decide) ?_
      refine aw_isub dX9_keep_50 ?_
      refine rw_put_35 dX9_keep_51 fl_X9_185_10 hR hK (fun M hR hK => ?_)
      exact fin _ ⟨by rw [f_keep1, if_pos h6]; have e := (k_shift_sc 594 6 σ).1; rw [← e]; exact hR, hK⟩ _
