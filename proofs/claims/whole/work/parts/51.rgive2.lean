/-! ===== the reference's give, 2 ===== -/
set_option maxRecDepth 100000 in
set_option maxHeartbeats 4000000 in
theorem rg_out {l : Launch} {g : ab_G} {Mb : ab_M} {a0 : Nat} {ρ : Nat → Nat} {σ : rS} {nf nj nm n man jar : Nat} (hN : rN nf nj nm σ) (hn : n ≤ 6) (hn0 : 0 < n) (hman : man + n ≤ nm) (hjar : jar + n ≤ nj) {QQ : Int32 → ab_M → Prop} : ∀ (m : Nat) (x : rT) (M : ab_M), m ≤ 2 ^ n - 1 → RR g M a0 ρ (gσ σ x) → KR Mb M → ∀ z6 z7 z8 z9 : Option Value, (∀ (M8 : ab_M) (z5 z6 z7 z8 z9 : Option Value), RR g M8 a0 ρ (gσ σ (rr_out σ man jar n m x)) → KR Mb M8 → AW l g ab_X0 (ab_Z g (ab_Qi QQ)) Y_X9_give 2 43 0 0 241 [some (.ref a0), some (.int (nI man)), some (.int (nI jar)), some (.int (nI n)), some (.int (nI (2 ^ n - 1))), z5, z6, z7, z8, z9] [] M8) → AW l g ab_X0 (ab_Z g (ab_Qi QQ)) Y_X9_give 2 43 0 0 59 [some (.ref a0), some (.int (nI man)), some (.int (nI jar)), some (.int (nI n)), some (.int (nI (2 ^ n - 1))), some (.int (nI m - 1)), z6, z7, z8, z9] [] M := by
  obtain ⟨hI, hn0c, hn5, hn12, hb0, hb5, hb12⟩ := id hN
  obtain ⟨ea, eb, ec⟩ := all_eq n hn
  intro m
  induction m with
  | zero =>
    intro x M hm hR hK z6 z7 z8 z9 kk
    refine aw_iload dX9_give_59 rfl ?_
    refine aw_if_lt (tgt := 241) dX9_give_61 (by decide) (fun h61 => ?_) (fun h61 => absurd neg_1 h61)
    exact kk M _ _ _ _ _ hR hK
  | succ s ih =>
    intro x M hm hR hK z6 z7 z8 z9 kk
    rw [nI_pred]
    have hs : s < 2 ^ n - 1 := by omega
    have hins : vp_in (nI s) 64 := vp_in_nI (by omega) (by omega)
    have hcl := nI_cl (n := s) (by omega)
    have eon := (on_eq s (by omega)).1
    have hle := (on_eq s (by omega)).2
    have eadd : nI man + nI (oN s) = nI (man + oN s) := nI_add man (oN s)
    refine aw_iload dX9_give_59 rfl ?_
    refine aw_if_lt (tgt := 241) dX9_give_61 (by decide) (fun h61 => absurd h61 (nI_pos (by omega))) (fun h61 => ?_)
    refine aw_aload_n dX9_give_64 rfl ?_
    refine aw_get dX9_give_65 fg_X9_103_10 hR.1 rfl ?_
    refine aw_iload dX9_give_68 rfl ?_
    refine aw_iload dX9_give_70 rfl ?_
    refine aw_iload dX9_give_72 rfl ?_
    refine aw_icmp_ne (tgt := 81) dX9_give_74 (by decide) (fun h74 => ?_) (fun h74 => absurd ((nI_eq_iff (by omega) (by omega)).mp h74) (by omega))
    refine aw_iconst (v := -1) dX9_give_81 (by decide) ?_
    refine rw_iast_38 dX9_give_82 hins hR hK (fun M hR hK => ?_)
    refine aw_iload_n dX9_give_83 rfl ?_
    refine aw_iload dX9_give_84 rfl ?_
    refine aw_S1i (kc' := 0) (ks' := 0) dX9_give_86 cs_X9_209 r_ones rfl (Nat.le_of_ble_eq_true rfl) (fun x86 M86 h86 => ?_)
    obtain ⟨rfl, e86⟩ := h86
    replace e86 := e86.symm
    subst e86
    rw [eon]
    refine aw_iadd dX9_give_89 ?_
    rw [eadd]
    refine aw_istore dX9_give_90 rfl (by decide) ?_
    refine aw_iload_n dX9_give_92 rfl ?_
    refine aw_iconst (v := 1) dX9_give_93 (by decide) ?_
    refine aw_isub dX9_give_94 ?_
    refine aw_istore dX9_give_95 rfl (by decide) ?_
    refine rg_in hN hn hn0 hman hjar hs n (upd x.1 s (-1), x.2) _ (Nat.le_refl _) (by have h9 := hR; rw [hcl, g38] at h9; exact h9) hK _ _ (fun M8 z7 z8 z9 hR hK => ?_)
    refine aw_iinc dX9_give_235 rfl (ii_m1 s) rfl (by decide) ?_
    refine aw_goto (tgt := 59) dX9_give_238 (by decide) ?_
    exact ih _ _ (by omega) hR hK _ _ _ _ kk
set_option maxRecDepth 100000 in
set_option maxHeartbeats 4000000 in
theorem rg_end {l : Launch} {g : ab_G} {Mb : ab_M} {a0 : Nat} {ρ : Nat → Nat} {σ : rS} {nf nj nm n man jar : Nat} (hN : rN nf nj nm σ) (hn : n ≤ 6) (hn0 : 0 < n) (hman : man + n ≤ nm) (hjar : jar + n ≤ nj) {QQ : Int32 → ab_M → Prop} (hq : ∀ v M', v = (f_give2 σ man jar n).1 ∧ RR g M' a0 ρ (f_give2 σ man jar n).2 ∧ KR Mb M' → QQ v M') (hw : wayok σ nm nj) {M1 : ab_M} (hR : RR g M1 a0 ρ (gσ σ (rr_tab σ man jar n))) (hK : KR Mb M1) (z5 z6 z7 z8 z9 : Option Value) : AW l g ab_X0 (ab_Z g (ab_Qi QQ)) Y_X9_give 2 43 0 0 241 [some (.ref a0), some (.int (nI man)), some (.int (nI jar)), some (.int (nI n)), some (.int (nI (2 ^ n - 1))), z5, z6, z7, z8, z9] [] M1 := by
  obtain ⟨hI, hn0c, hn5, hn12, hb0, hb5, hb12⟩ := id hN
  obtain ⟨ea, eb, ec⟩ := all_eq n hn
  obtain ⟨t1, t2⟩ := tab_ok hw hn hn0 hman hjar (σ.2.1 39)
  have hf : f_give2 σ man jar n = if (rr_tab σ man jar n).1 0 < 0 then (-4, gσ σ (rr_tab σ man jar n)) else ((rr_tab σ man jar n).1 0, ra (gσ σ (rr_tab σ man jar n)) 40 (lp (k_rs (rr_tab σ man jar n).2 man (nI jar)) 0 n (0, lp (k_put (-4)) 0 10 (σ.2.1 40))).2) := rfl
  have ha := t1
  generalize rr_tab σ man jar n = x at hR hf t1 t2
  refine aw_aload_n dX9_give_241 rfl ?_
  refine aw_get dX9_give_242 fg_X9_103_10 hR.1 rfl ?_
  refine aw_iconst (v := 0) dX9_give_245 (by decide) ?_
  refine aw_iald dX9_give_246 (rr_38 hR) (by unfold vp_in; decide) ?_
  refine aw_if_ge (tgt := 253) dX9_give_247 (by decide) (fun h247 => ?_) (fun h247 => ?_)
  · have h247 : ¬ x.1 0 < 0 := Int32.not_lt.mpr h247
    refine aw_iconst (v := 0) dX9_give_253 (by decide) ?_
    refine aw_istore dX9_give_254 rfl (by decide) ?_
    rw [if_neg h247] at hf
    rw [hf] at hq
    replace hR : RR g M1 a0 ρ (ra (gσ σ x) 40 (σ.2.1 40)) := by rw [ra_id (show (gσ σ x).2.1 40 = σ.2.1 40 from rfl)]; exact hR
    refine gl (fun row M9 => RR g M9 a0 ρ (ra (gσ σ x) 40 row) ∧ KR Mb M9) (fun i row M9 => AW l g ab_X0 (ab_Z g (ab_Qi QQ)) Y_X9_give 2 43 0 0 256 [some (.ref a0), some (.int (nI man)), some (.int (nI jar)), some (.int (nI n)), some (.int (nI (2 ^ n - 1))), some (.int (nI i)), z6, z7, z8, z9] [] M9) (k_put (-4)) (fun _ _ => True) 10 (fun _ _ _ _ => trivial) ?_ 10 0 (σ.2.1 40) _ rfl trivial ⟨hR, hK⟩ ?_
    · clear hR hK
      intro i row M hi _ hp kk
      obtain ⟨hR, hK⟩ := hp
      have hin : vp_in (nI i) 10 := vp_in_nI (by omega) (by omega)
      have hcl := nI_cl (n := i) (by omega)
      refine aw_iload dX9_give_256 rfl ?_
      refine aw_bipush (v := 10) dX9_give_258 (by decide) ?_
      refine aw_icmp_ge (tgt := 278) dX9_give_260 (by decide) (fun h260 => absurd h260 (by rw [show (10 : Int32) = nI 10 from rfl]; exact nI_ge hi (by omega))) (fun h260 => ?_)
      refine aw_aload_n dX9_give_263 rfl ?_
      refine aw_get dX9_give_264 fg_X9_109_10 hR.1 rfl ?_
      refine aw_iload dX9_give_267 rfl ?_
      refine aw_bipush (v := -4) dX9_give_269 (by decide) ?_
      refine rw_iast_40 dX9_give_271 hin hR hK (fun M hR hK => ?_)
      refine aw_iinc dX9_give_272 rfl (ii_1 i) rfl (by decide) ?_
      refine aw_goto (tgt := 256) dX9_give_275 (by decide) ?_
      exact kk _ ⟨by have h9 := hR; rw [show (ra (gσ σ x) 40 row).2.1 40 = row from rfl, hcl, ra_ra] at h9; exact h9, hK⟩ trivial
    · clear hR hK
      intro M hp _
      obtain ⟨hR, hK⟩ := hp
      generalize lp (k_put (-4)) 0 10 (σ.2.1 40) = row0 at hR hq
      refine aw_iload dX9_give_256 rfl ?_
      refine aw_bipush (v := 10) dX9_give_258 (by decide) ?_
      refine aw_icmp_ge (tgt := 278) dX9_give_260 (by decide) (fun h260 => ?_) (fun h260 => absurd (show (10 : Int32) ≤ nI 10 from Int32.le_refl _) h260)
      refine aw_iconst (v := 0) dX9_give_278 (by decide) ?_
      refine aw_istore dX9_give_279 rfl (by decide) ?_
      refine aw_iload_n dX9_give_281 rfl ?_
      refine aw_istore dX9_give_282 rfl (by decide) ?_
      refine gl (fun s M9 => RR g M9 a0 ρ (ra (gσ σ x) 40 s.2) ∧ KR Mb M9) (fun i s M9 => ∀ z7 : Option Value, AW l g ab_X0 (ab_Z g (ab_Qi QQ)) Y_X9_give 2 43 0 0 284 [some (.ref a0), some (.int (nI man)), some (.int (nI jar)), some (.int (nI n)), some (.int (nI (2 ^ n - 1))), some (.int (nI (s.1))), some (.int (nI (man + i))), z7, z8, z9] [] M9) (k_rs x.2 man (nI jar)) (fun i s => p_ok x.1 n i s.1) n (fun i s hi h => by obtain ⟨f1, f2, f3, f4, f5⟩ := p_step hn hi (lst := x.1) (fun _ _ => rfl) t2 h; show p_ok x.1 n (i + 1) (s.1 ||| 2 ^ (x.2 s.1).toNatClampNeg); rw [f4]; exact f5) ?_ n 0 (0, row0) _ (Nat.zero_add _) ⟨by show 0 ≤ 2 ^ n - 1; omega, by show oN 0 = 0; decide +kernel, fun e => h247 (by rw [show x.1 0 = -1 from e]; decide)⟩ ⟨hR, hK⟩ ?_ z7
      · clear hR hK
        intro i s M hi hpo hp kk z7
        obtain ⟨hR, hK⟩ := hp
        obtain ⟨f1, f2, f3, f4, f5⟩ := p_step hn hi (lst := x.1) (fun _ _ => rfl) t2 hpo
        have hins : vp_in (nI s.1) 64 := vp_in_nI (by omega) (by omega)
        have hcl := nI_cl (n := s.1) (by omega)
        have hcm := nI_cl (n := man + i) (by omega)
        have hinm : vp_in (nI (man + i)) 10 := vp_in_nI (by omega) (by omega)
        have eadd : nI man + nI n = nI (man + n) := nI_add man n
        obtain ⟨eo1, eo2⟩ := or_eq (q_fb (r_tl σ man jar) x.1 n s.1) (by omega) s.1 f3
        have eor : nI s.1 ||| (1 <<< (x.2 s.1 &&& 31)) = nI (s.1 ||| 2 ^ (x.2 s.1).toNatClampNeg) := by rw [f4, f1]; exact eo1
        have hch : (ra (gσ σ x) 40 s.2).2.1 39 (nI s.1).toNatClampNeg = x.2 s.1 := by rw [hcl]; rfl
        have kk : ∀ (M8 : ab_M), RR g M8 a0 ρ (ra (gσ σ x) 40 (k_rs x.2 man (nI jar) i s).2) → KR Mb M8 → ∀ z7, AW l g ab_X0 (ab_Z g (ab_Qi QQ)) Y_X9_give 2 43 0 0 284 [some (.ref a0), some (.int (nI man)), some (.int (nI jar)), some (.int (nI n)), some (.int (nI (2 ^ n - 1))), some (.int (nI ((k_rs x.2 man (nI jar) i s).1))), some (.int (nI (man + (i + 1)))), z7, z8, z9] [] M8 := fun M8 hR hK => kk M8 ⟨hR, hK⟩ (by show p_ok x.1 n (i + 1) (s.1 ||| 2 ^ (x.2 s.1).toNatClampNeg); rw [f4]; exact f5)
        refine aw_iload dX9_give_284 rfl ?_
        refine aw_iload_n dX9_give_286 rfl ?_
        refine aw_iload_n dX9_give_287 rfl ?_
        refine aw_iadd dX9_give_288 ?_
        rw [eadd]
        refine aw_icmp_ge (tgt := 327) dX9_give_289 (by decide) (fun h289 => absurd (show nI (man + n) ≤ nI (man + i) from h289) (by rw [nI_le_iff (by omega) (by omega)]; omega)) (fun h289 => ?_)
        refine aw_aload_n dX9_give_292 rfl ?_
        refine aw_get dX9_give_293 fg_X9_106_10 hR.1 rfl ?_
        refine aw_iload dX9_give_296 rfl ?_
        refine aw_iald dX9_give_298 (rr_39 hR) hins ?_
        rw [hch]
        refine aw_istore dX9_give_299 rfl (by decide) ?_
        refine aw_aload_n dX9_give_301 rfl ?_
        refine aw_get dX9_give_302 fg_X9_109_10 hR.1 rfl ?_
        refine aw_iload dX9_give_305 rfl ?_
        refine aw_iload_n dX9_give_307 rfl ?_
        refine aw_iload dX9_give_308 rfl ?_
        refine aw_iadd dX9_give_310 ?_
        refine rw_iast_40 dX9_give_311 hinm hR hK (fun M hR hK => ?_)
        refine aw_iload dX9_give_312 rfl ?_
        refine aw_iconst (v := 1) dX9_give_314 (by decide) ?_
        refine aw_iload dX9_give_315 rfl ?_
        refine aw_ishl dX9_give_317 ?_
        refine aw_ior dX9_give_318 ?_
        rw [eor]
        refine aw_istore dX9_give_319 rfl (by decide) ?_
        refine aw_iinc dX9_give_321 rfl (ii_1 (man + i)) rfl (by decide) ?_
        refine aw_goto (tgt := 284) dX9_give_324 (by decide) ?_
        exact kk _ (by have h9 := hR; rw [show (ra (gσ σ x) 40 s.2).2.1 40 = s.2 from rfl, hcm, ra_ra] at h9; exact h9) hK _
      · clear hR hK
        intro M hp hpo z7
        obtain ⟨hR, hK⟩ := hp
        have eadd : nI man + nI n = nI (man + n) := nI_add man n
        refine aw_iload dX9_give_284 rfl ?_
        refine aw_iload_n dX9_give_286 rfl ?_
        refine aw_iload_n dX9_give_287 rfl ?_
        refine aw_iadd dX9_give_288 ?_
        rw [eadd]
        refine aw_icmp_ge (tgt := 327) dX9_give_289 (by decide) (fun h289 => ?_) (fun h289 => absurd (Int32.le_refl _) h289)
        refine aw_aload_n dX9_give_327 rfl ?_
        refine aw_get dX9_give_328 fg_X9_103_10 hR.1 rfl ?_
        refine aw_iconst (v := 0) dX9_give_331 (by decide) ?_
        refine aw_iald dX9_give_332 (rr_38 hR) (by unfold vp_in; decide) ?_
        exact aw_iret dX9_give_333 rfl (hq _ _ ⟨rfl, hR, hK⟩)
  · have h247 : x.1 0 < 0 := Int32.not_le.mp h247
    refine aw_bipush (v := -4) dX9_give_250 (by decide) ?_
    exact aw_iret dX9_give_252 rfl (hq _ _ ⟨by rw [hf, if_pos h247], by rw [hf, if_pos h247]; exact hR, hK⟩)
set_option maxRecDepth 100000 in
set_option maxHeartbeats 4000000 in
theorem r_give {l : Launch} {g : ab_G} {Mb : ab_M} {a0 : Nat} {ρ : Nat → Nat} {σ : rS} {nf nj nm : Nat} (hR : RR g Mb a0 ρ σ) (hN : rN nf nj nm σ) (hw : wayok σ nm nj) {mm jj nn : Int32} : AM l g Y_X9_give 2 43 0 0 [.ref a0, .int mm, .int jj, .int nn] Mb (ab_Qi (fun x M' => ((gcond σ mm jj nn = false ∧ x = -1 ∧ RR g M' a0 ρ σ) ∨ ∃ n9 m9 j9, 0 < n9 ∧ n9 ≤ 6 ∧ m9 + n9 ≤ nm ∧ j9 + n9 ≤ nj ∧ nn = nI n9 ∧ mm = nI m9 ∧ jj = nI j9 ∧ gcond σ mm jj nn = true ∧ x = (f_give2 σ m9 j9 n9).1 ∧ RR g M' a0 ρ (f_give2 σ m9 j9 n9).2) ∧ KR Mb M')) := by
  refine AM.of [some (.ref a0), some (.int mm), some (.int jj), some (.int nn), none, none, none, none, none, none] (by decide +kernel) (Nat.le_of_ble_eq_true rfl) rfl ?_
  obtain ⟨nf0, nj0, nm0, hN0⟩ : ∃ a b c, rN a b c σ := ⟨nf, nj, nm, hN⟩
  clear hN0
  have hI := hN.1
  have hn0c := hN.2.1
  have hn5 := hN.2.2.1
  have hn12 := hN.2.2.2.1
  have hb0 := hN.2.2.2.2.1
  have hb5 := hN.2.2.2.2.2.1
  have hb12 := hN.2.2.2.2.2.2
  have hK : KR Mb Mb := KR.rf
  refine aw_iload_n dX9_give_0 rfl ?_
  refine aw_iconst (v := 1) dX9_give_1 (by decide) ?_
  refine aw_bipush (v := 6) dX9_give_2 (by decide) ?_
  refine aw_S3i (kc' := 0) (ks' := 0) dX9_give_4 cs_X9_112 r_in rfl (Nat.le_of_ble_eq_true rfl) (fun x4 M4 h4 => ?_)
  obtain ⟨rfl, e4⟩ := h4
  replace e4 := e4.symm
  subst e4
  refine aw_if_eq (tgt := 46) dX9_give_7 (by decide) (fun h7 => ?_) (fun h7 => ?_)
  · replace h7 := b2i_0.mp h7
    refine aw_iconst (v := -1) dX9_give_46 (by decide) ?_
    exact aw_iret dX9_give_47 rfl ⟨Or.inl ⟨by rw [gcond, h7]; rfl, rfl, hR⟩, hK⟩
  · replace h7 := b2i_n.mp h7
    have hn1 := (q_in_iff.mp h7).1
    obtain ⟨n, hn, rfl⟩ := in_nat (b := 6) h7 (by decide) (by decide) (by decide)
    have hn0 : 0 < n := by rw [t_1, nI_toInt (by omega)] at hn1; omega
    have hgc : gcond σ mm jj (nI n) = ((q_isM σ mm && decide (mm ≤ σ.1 12 - nI n)) && (q_isJ σ jj && decide (jj ≤ σ.1 5 - nI n))) := by rw [gcond, h7, hn12, hn5, gc_in hb12 hn hn0, gc_in (show nj ≤ 10 by omega) hn hn0]; show _ = ((q_in mm 0 (σ.1 12 - 1) && _) && (q_in jj 0 (σ.1 5 - 1) && _)); rw [hn12, hn5]; rfl
    refine aw_aload_n dX9_give_10 rfl ?_
    refine aw_iload_n dX9_give_11 rfl ?_
    refine aw_V1i (kc' := 0) (ks' := 0) dX9_give_12 cs_X9_146_10 hR.1 (r_isMan hR) rfl (Nat.le_of_ble_eq_true rfl) (fun x12 M12 h12 => ?_)
    obtain ⟨rfl, e12⟩ := h12
    replace e12 := e12.symm
    subst e12
    refine aw_if_eq (tgt := 46) dX9_give_15 (by decide) (fun h15 => ?_) (fun h15 => ?_)
    · replace h15 := b2i_0.mp h15
      refine aw_iconst (v := -1) dX9_give_46 (by decide) ?_
      exact aw_iret dX9_give_47 rfl ⟨Or.inl ⟨by rw [hgc, h15]; rfl, rfl, hR⟩, hK⟩
    · replace h15 := b2i_n.mp h15
      refine aw_aload_n dX9_give_18 rfl ?_
      refine aw_iload_n dX9_give_19 rfl ?_
      refine aw_V1i (kc' := 0) (ks' := 0) dX9_give_20 cs_X9_129_10 hR.1 (r_isJar hR) rfl (Nat.le_of_ble_eq_true rfl) (fun x20 M20 h20 => ?_)
      obtain ⟨rfl, e20⟩ := h20
      replace e20 := e20.symm
      subst e20
      refine aw_if_eq (tgt := 46) dX9_give_23 (by decide) (fun h23 => ?_) (fun h23 => ?_)
      · replace h23 := b2i_0.mp h23
        refine aw_iconst (v := -1) dX9_give_46 (by decide) ?_
        exact aw_iret dX9_give_47 rfl ⟨Or.inl ⟨by rw [hgc, h23]; simp, rfl, hR⟩, hK⟩
      · replace h23 := b2i_n.mp h23
        refine aw_iload_n dX9_give_26 rfl ?_
        refine aw_aload_n dX9_give_27 rfl ?_
        refine aw_get dX9_give_28 fg_X9_126_10 hR.1 rfl ?_
        refine aw_iload_n dX9_give_31 rfl ?_
        refine aw_isub dX9_give_32 ?_
        refine aw_icmp_gt (tgt := 46) dX9_give_33 (by decide) (fun h33 => ?_) (fun h33 => ?_)
        · have h33 : ¬ mm ≤ σ.1 12 - nI n := Int32.not_le.mpr h33
          refine aw_iconst (v := -1) dX9_give_46 (by decide) ?_
          exact aw_iret dX9_give_47 rfl ⟨Or.inl ⟨by rw [hgc, decide_eq_false h33]; simp, rfl, hR⟩, hK⟩
        · have h33 : mm ≤ σ.1 12 - nI n := Int32.not_lt.mp h33
          refine aw_iload_n dX9_give_36 rfl ?_
          refine aw_aload_n dX9_give_37 rfl ?_
          refine aw_get dX9_give_38 fg_X9_116_10 hR.1 rfl ?_
          refine aw_iload_n dX9_give_41 rfl ?_
          refine aw_isub dX9_give_42 ?_
          refine aw_icmp_le (tgt := 48) dX9_give_43 (by decide) (fun h43 => ?_) (fun h43 => ?_)
          · have h43 : jj ≤ σ.1 5 - nI n := h43
            have hgt : gcond σ mm jj (nI n) = true := by rw [hgc, h15, h23, decide_eq_true h33, decide_eq_true h43]; rfl
            obtain ⟨man, hman, rfl⟩ : ∃ man : Nat, man + n ≤ nm ∧ mm = nI man := by
              refine give_in hb12 hn ?_
              have h9 := hgt
              rw [gcond, h7, hn12] at h9
              simp at h9
              exact h9.1
            obtain ⟨jar, hjar, rfl⟩ : ∃ jar : Nat, jar + n ≤ nj ∧ jj = nI jar := by
              refine give_in (show nj ≤ 10 by omega) hn ?_
              have h9 := hgt
              rw [gcond, h7, hn5] at h9
              simp at h9
              exact h9.2
            obtain ⟨ea, eb, ec⟩ := all_eq n hn
            have hins : vp_in (nI (2 ^ n - 1)) 64 := vp_in_nI (by omega) (by omega)
            have hcl := nI_cl (n := 2 ^ n - 1) (by omega)
            have eon := (on_eq (2 ^ n - 1) (by omega)).1
            replace hR : RR g Mb a0 ρ (gσ σ (σ.2.1 38, σ.2.1 39)) := by rw [g0]; exact hR
            refine aw_iconst (v := 1) dX9_give_48 (by decide) ?_
            refine aw_iload_n dX9_give_49 rfl ?_
            refine aw_ishl dX9_give_50 ?_
            refine aw_iconst (v := 1) dX9_give_51 (by decide) ?_
            refine aw_isub dX9_give_52 ?_
            rw [ea]
            refine aw_istore dX9_give_53 rfl (by decide) ?_
            refine aw_iload dX9_give_55 rfl ?_
            refine aw_istore dX9_give_57 rfl (by decide) ?_
            refine aw_iload dX9_give_59 rfl ?_
            refine aw_if_lt (tgt := 241) dX9_give_61 (by decide) (fun h61 => absurd h61 (nI_pos (by omega))) (fun h61 => ?_)
            refine aw_aload_n dX9_give_64 rfl ?_
            refine aw_get dX9_give_65 fg_X9_103_10 hR.1 rfl ?_
            refine aw_iload dX9_give_68 rfl ?_
            refine aw_iload dX9_give_70 rfl ?_
            refine aw_iload dX9_give_72 rfl ?_
            refine aw_icmp_ne (tgt := 81) dX9_give_74 (by decide) (fun h74 => absurd rfl h74) (fun h74 => ?_)
            refine aw_iconst (v := 0) dX9_give_77 (by decide) ?_
            refine aw_goto (tgt := 82) dX9_give_78 (by decide) ?_
            refine rw_iast_38 dX9_give_82 hins hR hK (fun M hR hK => ?_)
            refine aw_iload_n dX9_give_83 rfl ?_
            refine aw_iload dX9_give_84 rfl ?_
            refine aw_S1i (kc' := 0) (ks' := 0) dX9_give_86 cs_X9_209 r_ones rfl (Nat.le_of_ble_eq_true rfl) (fun x86 M86 h86 => ?_)
            obtain ⟨rfl, e86⟩ := h86
            replace e86 := e86.symm
            subst e86
            refine aw_iadd dX9_give_89 ?_
            refine aw_istore dX9_give_90 rfl (by decide) ?_
            refine aw_iload_n dX9_give_92 rfl ?_
            refine aw_iconst (v := 1) dX9_give_93 (by decide) ?_
            refine aw_isub dX9_give_94 ?_
            refine aw_istore dX9_give_95 rfl (by decide) ?_
            refine aw_iload dX9_give_97 rfl ?_
            refine aw_if_lt (tgt := 235) dX9_give_99 (by decide) (fun h99 => absurd h99 (by rw [show nI n - 1 = nI (n - 1) from (by rw [show n = (n - 1) + 1 by omega]; exact nI_pred (n - 1))]; exact nI_pos (by omega))) (fun h99 => ?_)
            refine aw_iload dX9_give_102 rfl ?_
            refine aw_iload dX9_give_104 rfl ?_
            refine aw_icmp_ge (tgt := 235) dX9_give_106 (by decide) (fun h106 => ?_) (fun h106 => absurd (Int32.le_refl _) h106)
            refine aw_iinc dX9_give_235 rfl (ii_m1 (2 ^ n - 1)) rfl (by decide) ?_
            refine aw_goto (tgt := 59) dX9_give_238 (by decide) ?_
            refine rg_out hN hn hn0 hman hjar (2 ^ n - 1) (upd (σ.2.1 38) (2 ^ n - 1) 0, σ.2.1 39) _ (Nat.le_refl _) (by have h9 := hR; rw [hcl, g38] at h9; exact h9) hK _ _ _ _ (fun M8 z5 z6 z7 z8 z9 hR hK => ?_)
            exact rg_end hN hn hn0 hman hjar (fun v M' h => ⟨Or.inr ⟨n, man, jar, hn0, hn, hman, hjar, rfl, rfl, rfl, hgt, h.1, h.2.1⟩, h.2.2⟩) hw hR hK z5 z6 z7 z8 z9
          · refine aw_iconst (v := -1) dX9_give_46 (by decide) ?_
            exact aw_iret dX9_give_47 rfl ⟨Or.inl ⟨by rw [hgc, decide_eq_false h43]; simp, rfl, hR⟩, hK⟩
