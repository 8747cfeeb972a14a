/-! ===== the reference's give ===== -/
def gσ (σ : rS) (x : rT) : rS := ra (ra σ 38 x.1) 39 x.2
theorem g38 {σ : rS} {x : rT} {T : Nat → Int32} : ra (gσ σ x) 38 T = gσ σ (T, x.2) := by
  unfold gσ ra
  simp only [Prod.mk.injEq, true_and, and_true]
  funext j
  by_cases h : j = 38
  · simp [h]
  · by_cases h2 : j = 39 <;> simp [h, h2]
theorem g39 {σ : rS} {x : rT} {C : Nat → Int32} : ra (gσ σ x) 39 C = gσ σ (x.1, C) := by
  unfold gσ
  rw [ra_ra]
theorem g0 {σ : rS} : gσ σ (σ.2.1 38, σ.2.1 39) = σ := by
  unfold gσ
  rw [ra_id (σ := σ) (k := 38) rfl, ra_id rfl]
theorem on_eq : ∀ s, s < 64 → q_ones (nI s) = nI (oN s) ∧ oN s ≤ 6 := by decide +kernel
theorem bit_eq : ∀ k, k < 6 → ∀ s, s < 64 → ((nI s >>> (nI k &&& 31) &&& 1 = 1) ↔ (s ||| 2 ^ k) = s) := by decide +kernel
def gcond (σ : rS) (mm jj nn : Int32) : Bool := q_in nn 1 6 && (q_in mm 0 (σ.1 12 - nn) && q_in jj 0 (σ.1 5 - nn))
theorem gc_in {N n : Nat} {a : Int32} (hN : N ≤ 10) (hn : n ≤ 6) (hn0 : 0 < n) : q_in a 0 (nI N - nI n) = (q_in a 0 (nI N - 1) && decide (a ≤ nI N - nI n)) := by
  have e1 : (nI N - nI n).toInt = (N : Int) - n := by rw [fb_subI (by rw [nI_toInt (by omega), nI_toInt (by omega)]; omega) (by rw [nI_toInt (by omega), nI_toInt (by omega)]; omega), nI_toInt (by omega), nI_toInt (by omega)]
  have e2 : (nI N - 1).toInt = (N : Int) - 1 := by rw [t_sub1 (by rw [nI_toInt (by omega)]; omega), nI_toInt (by omega)]
  rw [Bool.eq_iff_iff, Bool.and_eq_true, q_in_iff, q_in_iff, decide_eq_true_eq, Int32.le_iff_toInt_le, e1, e2, t_0]
  omega
def f_give2 (σ : rS) (man jar n : Nat) : Int32 × rS := if (rr_tab σ man jar n).1 0 < 0 then (-4, gσ σ (rr_tab σ man jar n)) else ((rr_tab σ man jar n).1 0, ra (gσ σ (rr_tab σ man jar n)) 40 (lp (k_rs (rr_tab σ man jar n).2 man (nI jar)) 0 n (0, lp (k_put (-4)) 0 10 (σ.2.1 40))).2)
set_option maxRecDepth 100000 in
set_option maxHeartbeats 4000000 in
theorem rg_in {l : Launch} {g : ab_G} {Mb : ab_M} {a0 : Nat} {ρ : Nat → Nat} {σ : rS} {nf nj nm n man jar : Nat} (hN : rN nf nj nm σ) (hn : n ≤ 6) (hn0 : 0 < n) (hman : man + n ≤ nm) (hjar : jar + n ≤ nj) {QQ : Int32 → ab_M → Prop} {s : Nat} (hs : s < 2 ^ n - 1) : ∀ (j : Nat) (x : rT) (M : ab_M), j ≤ n → RR g M a0 ρ (gσ σ x) → KR Mb M → ∀ z8 z9 : Option Value, (∀ (M8 : ab_M) (z7 z8 z9 : Option Value), RR g M8 a0 ρ (gσ σ (rr_in σ man jar s j x)) → KR Mb M8 → AW l g ab_X0 (ab_Z g (ab_Qi QQ)) Y_X9_give 2 43 0 0 235 [some (.ref a0), some (.int (nI man)), some (.int (nI jar)), some (.int (nI n)), some (.int (nI (2 ^ n - 1))), some (.int (nI s)), some (.int (nI (man + oN s))), z7, z8, z9] [] M8) → AW l g ab_X0 (ab_Z g (ab_Qi QQ)) Y_X9_give 2 43 0 0 97 [some (.ref a0), some (.int (nI man)), some (.int (nI jar)), some (.int (nI n)), some (.int (nI (2 ^ n - 1))), some (.int (nI s)), some (.int (nI (man + oN s))), some (.int (nI j - 1)), z8, z9] [] M := by
  obtain ⟨hI, hn0c, hn5, hn12, hb0, hb5, hb12⟩ := id hN
  obtain ⟨ea, eb, ec⟩ := all_eq n hn
  have hon := ones_n n hn s hs
  have hins : vp_in (nI s) 64 := vp_in_nI (by omega) (by omega)
  have hcl := nI_cl (n := s) (by omega)
  have hm10 : man + oN s < nm := by omega
  have hinm : vp_in (nI (man + oN s)) 10 := vp_in_nI (by omega) (by omega)
  intro j
  induction j with
  | zero =>
    intro x M hj hR hK z8 z9 kk
    refine aw_iload dX9_give_97 rfl ?_
    refine aw_if_lt (tgt := 235) dX9_give_99 (by decide) (fun h99 => ?_) (fun h99 => absurd neg_1 h99)
    exact kk M _ z8 z9 hR hK
  | succ k ih =>
    intro x M hj hR hK z8 z9 kk
    rw [nI_pred]
    have hmi : mI (gσ σ x) (nI (man + oN s)) := by
      show 0 ≤ (nI (man + oN s)).toInt ∧ (nI (man + oN s)).toInt < (σ.1 12).toInt
      rw [hn12, nI_toInt (by omega), nI_toInt (by omega)]
      omega
    have ejk : nI jar + nI k = nI (jar + k) := nI_add jar k
    have hinj : vp_in (nI (jar + k)) 8 := vp_in_nI (by omega) (by omega)
    obtain ⟨eo1, eo2⟩ := or_eq k (by omega) s (by omega)
    have hino : vp_in (nI (s ||| 2 ^ k)) 64 := vp_in_nI (by omega) (by omega)
    have hclo := nI_cl (n := s ||| 2 ^ k) (by omega)
    have hbit := bit_eq k (by omega) s (by omega)
    have hIx : rI (gσ σ x) := hI
    have ihh : ∀ (y : rT) (M8 : ab_M) (z8 z9 : Option Value), y = k_rr σ man jar s k x → RR g M8 a0 ρ (gσ σ y) → KR Mb M8 → AW l g ab_X0 (ab_Z g (ab_Qi QQ)) Y_X9_give 2 43 0 0 97 [some (.ref a0), some (.int (nI man)), some (.int (nI jar)), some (.int (nI n)), some (.int (nI (2 ^ n - 1))), some (.int (nI s)), some (.int (nI (man + oN s))), some (.int (nI k - 1)), z8, z9] [] M8 := fun y M8 z8 z9 e hR hK => ih y M8 (by omega) hR hK z8 z9 (by subst e; exact kk)
    refine aw_iload dX9_give_97 rfl ?_
    refine aw_if_lt (tgt := 235) dX9_give_99 (by decide) (fun h99 => absurd h99 (nI_pos (by omega))) (fun h99 => ?_)
    refine aw_iload dX9_give_102 rfl ?_
    refine aw_iload dX9_give_104 rfl ?_
    refine aw_icmp_ge (tgt := 235) dX9_give_106 (by decide) (fun h106 => absurd (show nI (2 ^ n - 1) ≤ nI s from h106) (by rw [nI_le_iff (by omega) (by omega)]; omega)) (fun h106 => ?_)
    refine aw_iload dX9_give_109 rfl ?_
    refine aw_iload dX9_give_111 rfl ?_
    refine aw_ishr dX9_give_113 ?_
    refine aw_iconst (v := 1) dX9_give_114 (by decide) ?_
    refine aw_iand dX9_give_115 ?_
    refine aw_iconst (v := 1) dX9_give_116 (by decide) ?_
    refine aw_icmp_ne (tgt := 124) dX9_give_117 (by decide) (fun h117 => ?_) (fun h117 => ?_)
    · have h117 : ¬ (s ||| 2 ^ k) = s := fun e => h117 (hbit.mpr e)
      refine aw_aload_n dX9_give_124 rfl ?_
      refine aw_get dX9_give_125 fg_X9_103_10 hR.1 rfl ?_
      refine aw_iload dX9_give_128 rfl ?_
      refine aw_iconst (v := 1) dX9_give_130 (by decide) ?_
      refine aw_iload dX9_give_131 rfl ?_
      refine aw_ishl dX9_give_133 ?_
      refine aw_ior dX9_give_134 ?_
      rw [eo1]
      refine aw_iald dX9_give_135 (rr_38 hR) hino ?_
      have hxo : (gσ σ x).2.1 38 (nI (s ||| 2 ^ k)).toNatClampNeg = x.1 (s ||| 2 ^ k) := by rw [hclo]; rfl
      rw [hxo]
      refine aw_istore dX9_give_136 rfl (by decide) ?_
      refine aw_iload dX9_give_138 rfl ?_
      refine aw_if_lt (tgt := 229) dX9_give_140 (by decide) (fun h140 => ?_) (fun h140 => ?_)
      · have e9 : x = k_rr σ man jar s k x := by rw [k_rr, if_neg (fun q => absurd q.1.1.2 (Int32.not_le.mpr h140))]
        refine aw_iinc dX9_give_229 rfl (ii_m1 k) rfl (by decide) ?_
        refine aw_goto (tgt := 97) dX9_give_232 (by decide) ?_
        exact ihh _ _ _ _ e9 hR hK
      · have h140 : 0 ≤ x.1 (s ||| 2 ^ k) := Int32.not_lt.mp h140
        refine aw_aload_n dX9_give_143 rfl ?_
        refine aw_aload_n dX9_give_144 rfl ?_
        refine aw_get dX9_give_145 fg_X9_41_10 hR.1 rfl ?_
        refine aw_iload dX9_give_148 rfl ?_
        refine aw_iald dX9_give_150 (rr_13 hR) hinm ?_
        refine aw_iload_n dX9_give_151 rfl ?_
        refine aw_iload dX9_give_152 rfl ?_
        refine aw_iadd dX9_give_154 ?_
        rw [ejk]
        refine aw_V2i (kc' := 0) (ks' := 0) dX9_give_155 cs_X9_139_10 hR.1 (r_canGo hR hinj) rfl (Nat.le_of_ble_eq_true rfl) (fun x155 M155 h155 => ?_)
        obtain ⟨rfl, e155⟩ := h155
        replace e155 := e155.symm
        subst e155
        refine aw_if_eq (tgt := 229) dX9_give_158 (by decide) (fun h158 => ?_) (fun h158 => ?_)
        · replace h158 := b2i_0.mp h158
          have h158 : ¬ q_rcan σ (man + oN s) (jar + k) = true := fun q => by
            have h9 : q_rcan σ (man + oN s) (jar + k) = false := h158
            rw [h9] at q
            cases q
          have e9 : x = k_rr σ man jar s k x := by rw [k_rr, if_neg (fun q => h158 q.1.2)]
          refine aw_iinc dX9_give_229 rfl (ii_m1 k) rfl (by decide) ?_
          refine aw_goto (tgt := 97) dX9_give_232 (by decide) ?_
          exact ihh _ _ _ _ e9 hR hK
        · replace h158 := b2i_n.mp h158
          have h158 : q_rcan σ (man + oN s) (jar + k) = true := h158
          refine aw_iload dX9_give_161 rfl ?_
          refine aw_aload_n dX9_give_163 rfl ?_
          refine aw_iload dX9_give_164 rfl ?_
          refine aw_iload_n dX9_give_166 rfl ?_
          refine aw_iload dX9_give_167 rfl ?_
          refine aw_iadd dX9_give_169 ?_
          rw [ejk]
          refine aw_iconst (v := 1) dX9_give_170 (by decide) ?_
          refine aw_V3i (kc' := 0) (ks' := 0) dX9_give_171 cs_X9_181_10 hR.1 (r_wayOf hR hIx hmi hinj) rfl (Nat.le_of_ble_eq_true rfl) (fun x171 M171 h171 => ?_)
          obtain ⟨rfl, e171⟩ := h171
          replace e171 := e171.symm
          subst e171
          refine aw_iadd dX9_give_174 ?_
          refine aw_aload_n dX9_give_175 rfl ?_
          refine aw_iload dX9_give_176 rfl ?_
          refine aw_iload_n dX9_give_178 rfl ?_
          refine aw_iload dX9_give_179 rfl ?_
          refine aw_iadd dX9_give_181 ?_
          rw [ejk]
          refine aw_iconst (v := 0) dX9_give_182 (by decide) ?_
          refine aw_V3i (kc' := 0) (ks' := 0) dX9_give_183 cs_X9_181_10 hR.1 (r_wayOf hR hIx hmi hinj) rfl (Nat.le_of_ble_eq_true rfl) (fun x183 M183 h183 => ?_)
          obtain ⟨rfl, e183⟩ := h183
          replace e183 := e183.symm
          subst e183
          refine aw_iadd dX9_give_186 ?_
          refine aw_istore dX9_give_187 rfl (by decide) ?_
          refine aw_aload_n dX9_give_189 rfl ?_
          refine aw_get dX9_give_190 fg_X9_103_10 hR.1 rfl ?_
          refine aw_iload dX9_give_193 rfl ?_
          refine aw_iald dX9_give_195 (rr_38 hR) hins ?_
          refine aw_if_lt (tgt := 211) dX9_give_196 (by decide) (fun h196 => ?_) (fun h196 => ?_)
          · have h196 : x.1 s < 0 := by rw [← hcl]; exact h196
            have e9 : (upd x.1 s (q_wsum σ (man + oN s) (jar + k) (x.1 (s ||| 2 ^ k))), upd x.2 s (nI k)) = k_rr σ man jar s k x := by rw [k_rr, if_pos ⟨⟨⟨h117, h140⟩, h158⟩, Or.inl h196⟩]
            refine aw_aload_n dX9_give_211 rfl ?_
            refine aw_get dX9_give_212 fg_X9_103_10 hR.1 rfl ?_
            refine aw_iload dX9_give_215 rfl ?_
            refine aw_iload dX9_give_217 rfl ?_
            refine rw_iast_38 dX9_give_219 hins hR hK (fun M hR hK => ?_)
            refine aw_aload_n dX9_give_220 rfl ?_
            refine aw_get dX9_give_221 fg_X9_106_10 hR.1 rfl ?_
            refine aw_iload dX9_give_224 rfl ?_
            refine aw_iload dX9_give_226 rfl ?_
            refine rw_iast_39 dX9_give_228 hins hR hK (fun M hR hK => ?_)
            refine aw_iinc dX9_give_229 rfl (ii_m1 k) rfl (by decide) ?_
            refine aw_goto (tgt := 97) dX9_give_232 (by decide) ?_
            exact ihh _ _ _ _ e9 (by have h9 := hR; rw [hcl, g38, g39] at h9; exact h9) hK
          · have h196 : ¬ x.1 s < 0 := by rw [← hcl]; exact h196
            refine aw_iload dX9_give_199 rfl ?_
            refine aw_aload_n dX9_give_201 rfl ?_
            refine aw_get dX9_give_202 fg_X9_103_10 hR.1 rfl ?_
            refine aw_iload dX9_give_205 rfl ?_
            refine aw_iald dX9_give_207 (rr_38 hR) hins ?_
            refine aw_icmp_gt (tgt := 229) dX9_give_208 (by decide) (fun h208 => ?_) (fun h208 => ?_)
            · have h208 : ¬ q_wsum σ (man + oN s) (jar + k) (x.1 (s ||| 2 ^ k)) ≤ x.1 s := by rw [← hcl]; exact Int32.not_le.mpr (by have h9 := h208; rw [hcl] at h9 ⊢; exact h9)
              have e9 : x = k_rr σ man jar s k x := by rw [k_rr, if_neg (fun q => q.2.elim h196 h208)]
              refine aw_iinc dX9_give_229 rfl (ii_m1 k) rfl (by decide) ?_
              refine aw_goto (tgt := 97) dX9_give_232 (by decide) ?_
              exact ihh _ _ _ _ e9 hR hK
            · have h208 : q_wsum σ (man + oN s) (jar + k) (x.1 (s ||| 2 ^ k)) ≤ x.1 s := Int32.not_lt.mp (by have h9 := h208; rw [hcl] at h9; exact h9)
              have e9 : (upd x.1 s (q_wsum σ (man + oN s) (jar + k) (x.1 (s ||| 2 ^ k))), upd x.2 s (nI k)) = k_rr σ man jar s k x := by rw [k_rr, if_pos ⟨⟨⟨h117, h140⟩, h158⟩, Or.inr h208⟩]
              refine aw_aload_n dX9_give_211 rfl ?_
              refine aw_get dX9_give_212 fg_X9_103_10 hR.1 rfl ?_
              refine aw_iload dX9_give_215 rfl ?_
              refine aw_iload dX9_give_217 rfl ?_
              refine rw_iast_38 dX9_give_219 hins hR hK (fun M hR hK => ?_)
              refine aw_aload_n dX9_give_220 rfl ?_
              refine aw_get dX9_give_221 fg_X9_106_10 hR.1 rfl ?_
              refine aw_iload dX9_give_224 rfl ?_
              refine aw_iload dX9_give_226 rfl ?_
              refine rw_iast_39 dX9_give_228 hins hR hK (fun M hR hK => ?_)
              refine aw_iinc dX9_give_229 rfl (ii_m1 k) rfl (by decide) ?_
              refine aw_goto (tgt := 97) dX9_give_232 (by decide) ?_
              exact ihh _ _ _ _ e9 (by have h9 := hR; rw [hcl, g38, g39] at h9; exact h9) hK
    · have h117 : (s ||| 2 ^ k) = s := hbit.mp h117
      refine aw_iconst (v := -1) dX9_give_120 (by decide) ?_
      refine aw_goto (tgt := 136) dX9_give_121 (by decide) ?_
      have e9 : x = k_rr σ man jar s k x := by rw [k_rr, if_neg (fun q => q.1.1.1 h117)]
      refine aw_istore dX9_give_136 rfl (by decide) ?_
      refine aw_iload dX9_give_138 rfl ?_
      refine aw_if_lt (tgt := 229) dX9_give_140 (by decide) (fun h140 => ?_) (fun h140 => absurd (by decide) h140)
      refine aw_iinc dX9_give_229 rfl (ii_m1 k) rfl (by decide) ?_
      refine aw_goto (tgt := 97) dX9_give_232 (by decide) ?_
      exact ihh _ _ _ _ e9 hR hK
