/-! ===== the reference's methods, 5: minutes ===== -/
def rN (nf nj nm : Nat) (σ : rS) : Prop := rI σ ∧ σ.1 0 = nI nf ∧ σ.1 5 = nI nj ∧ σ.1 12 = nI nm ∧ nf ≤ 4 ∧ nj ≤ 8 ∧ nm ≤ 10
theorem rN_of {σ : rS} (hI : rI σ) : ∃ nf nj nm : Nat, rN nf nj nm σ := by
  have key : ∀ (x : Int32) (b : Nat), 0 ≤ x.toInt → x.toInt ≤ b → b < 100 → ∃ n : Nat, x = nI n ∧ n ≤ b := by
    intro x b h1 h2 h3
    refine ⟨x.toInt.toNat, ?_, by omega⟩
    apply Int32.toInt_inj.mp
    rw [nI_toInt (by omega)]
    omega
  obtain ⟨nf, h1, h2⟩ := key (σ.1 0) 4 hI.1.1 hI.1.2 (by omega)
  obtain ⟨nj, h3, h4⟩ := key (σ.1 5) 8 hI.2.1.1 hI.2.1.2 (by omega)
  obtain ⟨nm, h5, h6⟩ := key (σ.1 12) 10 hI.2.2.1.1 hI.2.2.1.2 (by omega)
  exact ⟨nf, nj, nm, hI, h1, h3, h5, h2, h4, h6⟩
/-- the same counts, the safety kept -/
def rK (σ τ : rS) : Prop := (rI σ → rI τ) ∧ τ.1 0 = σ.1 0 ∧ τ.1 5 = σ.1 5 ∧ τ.1 12 = σ.1 12
theorem rK.N {nf nj nm : Nat} {σ τ : rS} (h : rK σ τ) (hN : rN nf nj nm σ) : rN nf nj nm τ := ⟨h.1 hN.1, h.2.1.trans hN.2.1, h.2.2.1.trans hN.2.2.1, h.2.2.2.trans hN.2.2.2.1, hN.2.2.2.2⟩
theorem rK.rf {σ : rS} : rK σ σ := ⟨id, rfl, rfl, rfl⟩
theorem rK.tr {σ τ υ : rS} (h : rK σ τ) (h2 : rK τ υ) : rK σ υ := ⟨fun h3 => h2.1 (h.1 h3), h2.2.1.trans h.2.1, h2.2.2.1.trans h.2.2.1, h2.2.2.2.trans h.2.2.2⟩
theorem rK_flow {σ : rS} {f : Int32} : rK σ (f_flow σ f) := ⟨fun h => h, rfl, rfl, rfl⟩
theorem rK_join {σ : rS} {m : Int32} : rK σ (f_join σ m) := ⟨fun h => h, rfl, rfl, rfl⟩
theorem rK_down {σ : rS} {m : Int32} : rK σ (f_down σ m) := ⟨fun h => h, rfl, rfl, rfl⟩
theorem rK_keep {σ : rS} {m j v : Int32} : rK σ (f_keep2 (f_keep1 σ) m j v) := ⟨rI_keep, keep_sc 0 (by decide), keep_sc 5 (by decide), keep_sc 12 (by decide)⟩
theorem rK_pour1 {σ : rS} {m j v : Int32} : rK σ (f_pour1 σ m j v) := ⟨fun h => h, rfl, rfl, rfl⟩
theorem rK_pour {σ : rS} {m : Int32} : rK σ (f_pour σ m) := by
  unfold f_pour
  split
  · exact rK_down
  · exact (rK_pour1.tr rK_keep).tr rK_down
theorem rK_fill1 {σ : rS} {f s : Int32} : rK σ (f_fill1 σ f s) := by
  unfold f_fill1
  split
  · exact rK.rf
  · exact ⟨fun h => h, rfl, rfl, rfl⟩
theorem rK_fill2 {σ : rS} {s : Int32} : rK σ (f_fill2 σ s) := by
  unfold f_fill2
  split
  · exact ⟨fun h => h, rfl, rfl, rfl⟩
  · exact rK.rf
theorem rK_fill {σ : rS} {f : Int32} : rK σ (f_fill σ f) := by
  unfold f_fill
  split
  · exact rK_fill1.tr rK_fill2
  · exact rK.rf
def k_going (i : Nat) (σ : rS) : rS := rpz σ 37 (nI i) (if rg σ 19 (nI i) = 0 then 0 else 1)
def k_flow (i : Nat) (σ : rS) : rS := if rg σ 3 (nI i) = 0 then σ else f_flow σ (nI i)
def k_fill (i : Nat) (σ : rS) : rS := if rg σ 3 (nI i) = 0 then σ else f_fill σ (nI i)
def k_walk1 (σ : rS) (m : Int32) : rS := if rg σ 20 m = 0 then (if rg σ 19 m = 1 then f_pour σ m else f_join σ m) else σ
def k_walk (i : Nat) (σ : rS) : rS := if rg σ 37 (nI i) = 0 then σ else k_walk1 (rp σ 20 (nI i) (rg σ 20 (nI i) - 1)) (nI i)
def q_dv (σ : rS) (j : Int32) : Int32 := q_least (rg σ 10 j) (rg σ 9 j)
def k_drink (i : Nat) (σ : rS) : rS := rl (rp (rp σ 9 (nI i) (rg σ 9 (nI i) - q_dv σ (nI i))) 11 (nI i) (rg σ 11 (nI i) + q_dv σ (nI i))) 4 (σ.2.2 4 + (q_dv σ (nI i)).toInt64)
theorem rK_going {σ : rS} {i : Nat} : rK σ (k_going i σ) := ⟨fun h => h, rfl, rfl, rfl⟩
theorem rK_kflow {σ : rS} {i : Nat} : rK σ (k_flow i σ) := by
  unfold k_flow
  split
  · exact rK.rf
  · exact rK_flow
theorem rK_kfill {σ : rS} {i : Nat} : rK σ (k_fill i σ) := by
  unfold k_fill
  split
  · exact rK.rf
  · exact rK_fill
theorem rK_walk {σ : rS} {i : Nat} : rK σ (k_walk i σ) := by
  unfold k_walk
  split
  · exact rK.rf
  · refine rK.tr (τ := rp σ 20 (nI i) (rg σ 20 (nI i) - 1)) ⟨fun h => h, rfl, rfl, rfl⟩ ?_
    generalize rp σ 20 (nI i) (rg σ 20 (nI i) - 1) = τ
    unfold k_walk1
    split
    · split
      · exact rK_pour
      · exact rK_join
    · exact rK.rf
theorem rK_drink {σ : rS} {i : Nat} : rK σ (k_drink i σ) := ⟨fun h => h, rfl, rfl, rfl⟩
def m_5 (nf nj nm : Nat) (σ : rS) : rS := rs (lp k_drink 0 nj σ) 28 ((lp k_drink 0 nj σ).1 28 + 1)
def m_4 (nf nj nm : Nat) (σ : rS) : rS := m_5 nf nj nm (lp k_walk 0 nm σ)
def m_3 (nf nj nm : Nat) (σ : rS) : rS := m_4 nf nj nm (lp k_fill 0 nf σ)
def m_2 (nf nj nm : Nat) (σ : rS) : rS := m_3 nf nj nm (lp k_flow 0 nf σ)
def m_1 (nf nj nm : Nat) (σ : rS) : rS := m_2 nf nj nm (lp k_going 0 nm σ)
def f_minute (σ : rS) : rS := m_1 (σ.1 0).toNatClampNeg (σ.1 5).toNatClampNeg (σ.1 12).toNatClampNeg σ
set_option maxRecDepth 100000 in
set_option maxHeartbeats 4000000 in
theorem rm_5 {l : Launch} {g : ab_G} {M : ab_M} {a0 : Nat} {ρ : Nat → Nat} {nf nj nm : Nat} {σ : rS} (hN : rN nf nj nm σ) {M9 : ab_M} (hp : rP g a0 ρ M σ M9) (z1 z2 : Option Value) (hz1 : ab_ok1 [some (.ref a0), z1, z2] 2 = true) : AW l g ab_X0 (ab_Z g (ab_Qv (fun M' => RR g M' a0 ρ (m_5 nf nj nm σ) ∧ KR M M'))) Y_X9_minute 3 68 0 0 163 [some (.ref a0), z1, z2] [] M9 := by
  obtain ⟨hR, hK⟩ := id hp
  refine aw_iconst (v := 0) dX9_minute_163 (by decide) ?_
  refine aw_istore_n dX9_minute_164 rfl (by decide) ?_
  refine gl (rP g a0 ρ M) (fun i s M9 => ∀ z2 : Option Value, AW l g ab_X0 (ab_Z g (ab_Qv (fun M' => RR g M' a0 ρ (m_5 nf nj nm σ) ∧ KR M M'))) Y_X9_minute 3 68 0 0 165 [some (.ref a0), some (.int (nI i)), z2] [] M9) k_drink (fun i s => rN nf nj nm s) nj (fun i s h1 h2 => rK_drink.N h2) ?_ nj 0 σ M9 (Nat.zero_add _) hN ⟨hR, hK⟩ ?_ z2
  · intro i s M9 h1 hNs hp kk z2
    obtain ⟨hR, hK⟩ := id hp
    obtain ⟨hI, hn0, hn5, hn12, hb0, hb5, hb12⟩ := id hNs
    have hi : vp_in (nI i) 8 := vp_in_nI (by omega) (by omega)
    have kk : ∀ (M8 : ab_M) (z2 : Option Value) (s9 : rS), s9 = k_drink i s → RR g M8 a0 ρ s9 → KR M M8 → AW l g ab_X0 (ab_Z g (ab_Qv (fun M' => RR g M' a0 ρ (m_5 nf nj nm σ) ∧ KR M M'))) Y_X9_minute 3 68 0 0 165 [some (.ref a0), some (.int (nI (i + 1))), z2] [] M8 := fun M8 z2 s9 e9 hR hK => by subst e9; exact kk M8 ⟨hR, hK⟩ (rK_drink.N hNs) z2
    refine aw_iload_n dX9_minute_165 rfl ?_
    refine aw_aload_n dX9_minute_166 rfl ?_
    refine aw_get dX9_minute_167 fg_X9_116_10 hR.1 rfl ?_
    refine aw_icmp_ge (tgt := 226) dX9_minute_170 (by decide) (fun h170 => absurd (show s.1 5 ≤ nI i from h170) (by rw [hn5]; exact nI_ge h1 (by omega))) (fun h170 => ?_)
    refine aw_aload_n dX9_minute_173 rfl ?_
    refine aw_get dX9_minute_174 fg_X9_35_10 hR.1 rfl ?_
    refine aw_iload_n dX9_minute_177 rfl ?_
    refine aw_iald dX9_minute_178 (rr_10 hR) (by first | assumption | (unfold vp_in; decide)) ?_
    refine aw_aload_n dX9_minute_179 rfl ?_
    refine aw_get dX9_minute_180 fg_X9_32_10 hR.1 rfl ?_
    refine aw_iload_n dX9_minute_183 rfl ?_
    refine aw_iald dX9_minute_184 (rr_9 hR) (by first | assumption | (unfold vp_in; decide)) ?_
    refine aw_S2i (kc' := 0) (ks' := 0) dX9_minute_185 cs_X9_175 r_least rfl (Nat.le_of_ble_eq_true rfl) (fun x185 M185 h185 => ?_)
    obtain ⟨rfl, rfl⟩ := h185
    refine aw_istore_n dX9_minute_188 rfl (by decide) ?_
    refine aw_aload_n dX9_minute_189 rfl ?_
    refine aw_get dX9_minute_190 fg_X9_32_10 hR.1 rfl ?_
    refine aw_iload_n dX9_minute_193 rfl ?_
    refine aw_dup2 dX9_minute_194 rfl rfl ?_
    refine aw_iald dX9_minute_195 (rr_9 hR) (by first | assumption | (unfold vp_in; decide)) ?_
    refine aw_iload_n dX9_minute_196 rfl ?_
    refine aw_isub dX9_minute_197 ?_
    refine rw_iast_9 dX9_minute_198 (by first | assumption | (unfold vp_in; decide)) hR hK (fun M hR hK => ?_)
    refine aw_aload_n dX9_minute_199 rfl ?_
    refine aw_get dX9_minute_200 fg_X9_38_10 hR.1 rfl ?_
    refine aw_iload_n dX9_minute_203 rfl ?_
    refine aw_dup2 dX9_minute_204 rfl rfl ?_
    refine aw_iald dX9_minute_205 (rr_11 hR) (by first | assumption | (unfold vp_in; decide)) ?_
    refine aw_iload_n dX9_minute_206 rfl ?_
    refine aw_iadd dX9_minute_207 ?_
    refine rw_iast_11 dX9_minute_208 (by first | assumption | (unfold vp_in; decide)) hR hK (fun M hR hK => ?_)
    refine aw_aload_n dX9_minute_209 rfl ?_
    refine aw_get dX9_minute_210 fg_X9_84_10 hR.1 rfl ?_
    refine aw_iconst (v := 4) dX9_minute_213 (by decide) ?_
    refine aw_dup2 dX9_minute_214 rfl rfl ?_
    refine aw_lald dX9_minute_215 (rr_29 hR) (by first | assumption | (unfold vp_in; decide)) ?_
    refine aw_iload_n dX9_minute_216 rfl ?_
    refine aw_i2l dX9_minute_217 ?_
    refine aw_ladd dX9_minute_218 ?_
    refine rw_last_29 dX9_minute_219 (by first | assumption | (unfold vp_in; decide)) hR hK (fun M hR hK => ?_)
    refine aw_iinc dX9_minute_220 rfl (ii_1 i) rfl (by decide) ?_
    refine aw_goto (tgt := 165) dX9_minute_223 (by decide) ?_
    exact kk _ _ _ (rfl) hR hK
  · intro M9 hp hNs z2
    obtain ⟨hR, hK⟩ := id hp
    obtain ⟨hI, hn0, hn5, hn12, hb0, hb5, hb12⟩ := id hNs
    generalize hs : lp k_drink 0 nj σ = s at *
    refine aw_iload_n dX9_minute_165 rfl ?_
    refine aw_aload_n dX9_minute_166 rfl ?_
    refine aw_get dX9_minute_167 fg_X9_116_10 hR.1 rfl ?_
    refine aw_icmp_ge (tgt := 226) dX9_minute_170 (by decide) (fun h170 => ?_) (fun h170 => absurd (show s.1 5 ≤ nI nj by rw [hn5]; exact Int32.le_refl _) h170)
    refine aw_aload_n dX9_minute_226 rfl ?_
    refine aw_dup dX9_minute_227 rfl ?_
    refine aw_get dX9_minute_228 fg_X9_178_10 hR.1 rfl ?_
    refine aw_iconst (v := 1) dX9_minute_231 (by decide) ?_
    refine aw_iadd dX9_minute_232 ?_
    refine rw_put_28 dX9_minute_233 fl_X9_178_10 hR hK (fun M hR hK => ?_)
    exact aw_vret dX9_minute_236 rfl ⟨by rw [m_5, hs]; exact hR, hK⟩
set_option maxRecDepth 100000 in
set_option maxHeartbeats 4000000 in
theorem rm_4 {l : Launch} {g : ab_G} {M : ab_M} {a0 : Nat} {ρ : Nat → Nat} {nf nj nm : Nat} {σ : rS} (hN : rN nf nj nm σ) {M9 : ab_M} (hp : rP g a0 ρ M σ M9) (z1 z2 : Option Value) (hz1 : ab_ok1 [some (.ref a0), z1, z2] 2 = true) : AW l g ab_X0 (ab_Z g (ab_Qv (fun M' => RR g M' a0 ρ (m_4 nf nj nm σ) ∧ KR M M'))) Y_X9_minute 3 68 0 0 96 [some (.ref a0), z1, z2] [] M9 := by
  obtain ⟨hR, hK⟩ := id hp
  refine aw_iconst (v := 0) dX9_minute_96 (by decide) ?_
  refine aw_istore_n dX9_minute_97 rfl (by decide) ?_
  refine gl (rP g a0 ρ M) (fun i s M9 => ∀ z2 : Option Value, AW l g ab_X0 (ab_Z g (ab_Qv (fun M' => RR g M' a0 ρ (m_4 nf nj nm σ) ∧ KR M M'))) Y_X9_minute 3 68 0 0 98 [some (.ref a0), some (.int (nI i)), z2] [] M9) k_walk (fun i s => rN nf nj nm s) nm (fun i s h1 h2 => rK_walk.N h2) ?_ nm 0 σ M9 (Nat.zero_add _) hN ⟨hR, hK⟩ ?_ z2
  · intro i s M9 h1 hNs hp kk z2
    obtain ⟨hR, hK⟩ := id hp
    obtain ⟨hI, hn0, hn5, hn12, hb0, hb5, hb12⟩ := id hNs
    have hi : vp_in (nI i) 10 := vp_in_nI (by omega) (by omega)
    have hmi : mI s (nI i) := by unfold mI; rw [nI_toInt (by omega), hn12, nI_toInt (by omega)]; omega
    have kk : ∀ (M8 : ab_M) (z2 : Option Value) (s9 : rS), s9 = k_walk i s → RR g M8 a0 ρ s9 → KR M M8 → AW l g ab_X0 (ab_Z g (ab_Qv (fun M' => RR g M' a0 ρ (m_4 nf nj nm σ) ∧ KR M M'))) Y_X9_minute 3 68 0 0 98 [some (.ref a0), some (.int (nI (i + 1))), z2] [] M8 := fun M8 z2 s9 e9 hR hK => by subst e9; exact kk M8 ⟨hR, hK⟩ (rK_walk.N hNs) z2
    refine aw_iload_n dX9_minute_98 rfl ?_
    refine aw_aload_n dX9_minute_99 rfl ?_
    refine aw_get dX9_minute_100 fg_X9_126_10 hR.1 rfl ?_
    refine aw_icmp_ge (tgt := 163) dX9_minute_103 (by decide) (fun h103 => absurd (show s.1 12 ≤ nI i from h103) (by rw [hn12]; exact nI_ge h1 (by omega))) (fun h103 => ?_)
    refine aw_aload_n dX9_minute_106 rfl ?_
    refine aw_get dX9_minute_107 fg_X9_100_10 hR.1 rfl ?_
    refine aw_iload_n dX9_minute_110 rfl ?_
    refine aw_zald dX9_minute_111 (rr_37 hR) (by first | assumption | (unfold vp_in; decide)) ?_
    refine aw_if_eq (tgt := 157) dX9_minute_112 (by decide) (fun h112 => ?_) (fun h112 => ?_)
    · refine aw_iinc dX9_minute_157 rfl (ii_1 i) rfl (by decide) ?_
      refine aw_goto (tgt := 98) dX9_minute_160 (by decide) ?_
      first | (exact kk _ _ _ (by rw [k_walk, if_pos h112]) hR hK) | (exact kk _ _ _ (by rw [k_walk, if_neg h112, k_walk1, if_neg (show ¬ rg (rp s 20 (nI i) (rg s 20 (nI i) - 1)) 20 (nI i) = 0 from h131)]) hR hK) | (exact kk _ _ _ (by rw [k_walk, if_neg h112, k_walk1, if_pos (show rg (rp s 20 (nI i) (rg s 20 (nI i) - 1)) 20 (nI i) = 0 from h131), if_pos (show rg (rp s 20 (nI i) (rg s 20 (nI i) - 1)) 19 (nI i) = 1 from h141)]) hR hK) | (exact kk _ _ _ (by rw [k_walk, if_neg h112, k_walk1, if_pos (show rg (rp s 20 (nI i) (rg s 20 (nI i) - 1)) 20 (nI i) = 0 from h131), if_neg (show ¬ rg (rp s 20 (nI i) (rg s 20 (nI i) - 1)) 19 (nI i) = 1 from h141)]) hR hK)
    · refine aw_aload_n dX9_minute_115 rfl ?_
      refine aw_get dX9_minute_116 fg_X9_62_10 hR.1 rfl ?_
      refine aw_iload_n dX9_minute_119 rfl ?_
      refine aw_dup2 dX9_minute_120 rfl rfl ?_
      refine aw_iald dX9_minute_121 (rr_20 hR) (by first | assumption | (unfold vp_in; decide)) ?_
      refine aw_iconst (v := 1) dX9_minute_122 (by decide) ?_
      refine aw_isub dX9_minute_123 ?_
      refine rw_iast_20 dX9_minute_124 (by first | assumption | (unfold vp_in; decide)) hR hK (fun M hR hK => ?_)
      refine aw_aload_n dX9_minute_125 rfl ?_
      refine aw_get dX9_minute_126 fg_X9_62_10 hR.1 rfl ?_
      refine aw_iload_n dX9_minute_129 rfl ?_
      refine aw_iald dX9_minute_130 (rr_20 hR) (by first | assumption | (unfold vp_in; decide)) ?_
      refine aw_if_ne (tgt := 157) dX9_minute_131 (by decide) (fun h131 => ?_) (fun h131 => ?_)
      · refine aw_iinc dX9_minute_157 rfl (ii_1 i) rfl (by decide) ?_
        refine aw_goto (tgt := 98) dX9_minute_160 (by decide) ?_
        first | (exact kk _ _ _ (by rw [k_walk, if_pos h112]) hR hK) | (exact kk _ _ _ (by rw [k_walk, if_neg h112, k_walk1, if_neg (show ¬ rg (rp s 20 (nI i) (rg s 20 (nI i) - 1)) 20 (nI i) = 0 from h131)]) hR hK) | (exact kk _ _ _ (by rw [k_walk, if_neg h112, k_walk1, if_pos (show rg (rp s 20 (nI i) (rg s 20 (nI i) - 1)) 20 (nI i) = 0 from h131), if_pos (show rg (rp s 20 (nI i) (rg s 20 (nI i) - 1)) 19 (nI i) = 1 from h141)]) hR hK) | (exact kk _ _ _ (by rw [k_walk, if_neg h112, k_walk1, if_pos (show rg (rp s 20 (nI i) (rg s 20 (nI i) - 1)) 20 (nI i) = 0 from h131), if_neg (show ¬ rg (rp s 20 (nI i) (rg s 20 (nI i) - 1)) 19 (nI i) = 1 from h141)]) hR hK)
      · refine aw_aload_n dX9_minute_134 rfl ?_
        refine aw_get dX9_minute_135 fg_X9_59_10 hR.1 rfl ?_
        refine aw_iload_n dX9_minute_138 rfl ?_
        refine aw_iald dX9_minute_139 (rr_19 hR) (by first | assumption | (unfold vp_in; decide)) ?_
        refine aw_iconst (v := 1) dX9_minute_140 (by decide) ?_
        refine aw_icmp_ne (tgt := 152) dX9_minute_141 (by decide) (fun h141 => ?_) (fun h141 => ?_)
        · refine aw_aload_n dX9_minute_152 rfl ?_
          refine aw_iload_n dX9_minute_153 rfl ?_
          refine aw_V1v (kc' := 0) (ks' := 0) dX9_minute_154 cs_X9_142_10 hR.1 (r_joinRow hR hi) rfl (Nat.le_of_ble_eq_true rfl) (fun M154 h154 => ?_)
          obtain ⟨hR, hK154⟩ := h154
          replace hK := hK.tr hK154
          refine aw_iinc dX9_minute_157 rfl (ii_1 i) rfl (by decide) ?_
          refine aw_goto (tgt := 98) dX9_minute_160 (by decide) ?_
          first | (exact kk _ _ _ (by rw [k_walk, if_pos h112]) hR hK) | (exact kk _ _ _ (by rw [k_walk, if_neg h112, k_walk1, if_neg (show ¬ rg (rp s 20 (nI i) (rg s 20 (nI i) - 1)) 20 (nI i) = 0 from h131)]) hR hK) | (exact kk _ _ _ (by rw [k_walk, if_neg h112, k_walk1, if_pos (show rg (rp s 20 (nI i) (rg s 20 (nI i) - 1)) 20 (nI i) = 0 from h131), if_pos (show rg (rp s 20 (nI i) (rg s 20 (nI i) - 1)) 19 (nI i) = 1 from h141)]) hR hK) | (exact kk _ _ _ (by rw [k_walk, if_neg h112, k_walk1, if_pos (show rg (rp s 20 (nI i) (rg s 20 (nI i) - 1)) 20 (nI i) = 0 from h131), if_neg (show ¬ rg (rp s 20 (nI i) (rg s 20 (nI i) - 1)) 19 (nI i) = 1 from h141)]) hR hK)
        · refine aw_aload_n dX9_minute_144 rfl ?_
          refine aw_iload_n dX9_minute_145 rfl ?_
          refine aw_V1v (kc' := 0) (ks' := 0) dX9_minute_146 cs_X9_201_10 hR.1 (r_pour hR (show rI s from hI) (show mI s (nI i) from hmi)) rfl (Nat.le_of_ble_eq_true rfl) (fun M146 h146 => ?_)
          obtain ⟨hR, hK146⟩ := h146
          replace hK := hK.tr hK146
          refine aw_goto (tgt := 157) dX9_minute_149 (by decide) ?_
          refine aw_iinc dX9_minute_157 rfl (ii_1 i) rfl (by decide) ?_
          refine aw_goto (tgt := 98) dX9_minute_160 (by decide) ?_
          first | (exact kk _ _ _ (by rw [k_walk, if_pos h112]) hR hK) | (exact kk _ _ _ (by rw [k_walk, if_neg h112, k_walk1, if_neg (show ¬ rg (rp s 20 (nI i) (rg s 20 (nI i) - 1)) 20 (nI i) = 0 from h131)]) hR hK) | (exact kk _ _ _ (by rw [k_walk, if_neg h112, k_walk1, if_pos (show rg (rp s 20 (nI i) (rg s 20 (nI i) - 1)) 20 (nI i) = 0 from h131), if_pos (show rg (rp s 20 (nI i) (rg s 20 (nI i) - 1)) 19 (nI i) = 1 from h141)]) hR hK) | (exact kk _ _ _ (by rw [k_walk, if_neg h112, k_walk1, if_pos (show rg (rp s 20 (nI i) (rg s 20 (nI i) - 1)) 20 (nI i) = 0 from h131), if_neg (show ¬ rg (rp s 20 (nI i) (rg s 20 (nI i) - 1)) 19 (nI i) = 1 from h141)]) hR hK)
  · intro M9 hp hNs z2
    obtain ⟨hR, hK⟩ := id hp
    obtain ⟨hI, hn0, hn5, hn12, hb0, hb5, hb12⟩ := id hNs
    generalize hs : lp k_walk 0 nm σ = s at *
    refine aw_iload_n dX9_minute_98 rfl ?_
    refine aw_aload_n dX9_minute_99 rfl ?_
    refine aw_get dX9_minute_100 fg_X9_126_10 hR.1 rfl ?_
    refine aw_icmp_ge (tgt := 163) dX9_minute_103 (by decide) (fun h103 => ?_) (fun h103 => absurd (show s.1 12 ≤ nI nm by rw [hn12]; exact Int32.le_refl _) h103)
    exact (show m_4 nf nj nm σ = m_5 nf nj nm s by rw [m_4, hs]) ▸ rm_5 hNs hp _ _ rfl
set_option maxRecDepth 100000 in
set_option maxHeartbeats 4000000 in
theorem rm_3 {l : Launch} {g : ab_G} {M : ab_M} {a0 : Nat} {ρ : Nat → Nat} {nf nj nm : Nat} {σ : rS} (hN : rN nf nj nm σ) {M9 : ab_M} (hp : rP g a0 ρ M σ M9) (z1 z2 : Option Value) (hz1 : ab_ok1 [some (.ref a0), z1, z2] 2 = true) : AW l g ab_X0 (ab_Z g (ab_Qv (fun M' => RR g M' a0 ρ (m_3 nf nj nm σ) ∧ KR M M'))) Y_X9_minute 3 68 0 0 66 [some (.ref a0), z1, z2] [] M9 := by
  obtain ⟨hR, hK⟩ := id hp
  refine aw_iconst (v := 0) dX9_minute_66 (by decide) ?_
  refine aw_istore_n dX9_minute_67 rfl (by decide) ?_
  refine gl (rP g a0 ρ M) (fun i s M9 => ∀ z2 : Option Value, AW l g ab_X0 (ab_Z g (ab_Qv (fun M' => RR g M' a0 ρ (m_3 nf nj nm σ) ∧ KR M M'))) Y_X9_minute 3 68 0 0 68 [some (.ref a0), some (.int (nI i)), z2] [] M9) k_fill (fun i s => rN nf nj nm s) nf (fun i s h1 h2 => rK_kfill.N h2) ?_ nf 0 σ M9 (Nat.zero_add _) hN ⟨hR, hK⟩ ?_ z2
  · intro i s M9 h1 hNs hp kk z2
    obtain ⟨hR, hK⟩ := id hp
    obtain ⟨hI, hn0, hn5, hn12, hb0, hb5, hb12⟩ := id hNs
    have hi : vp_in (nI i) 4 := vp_in_nI (by omega) (by omega)
    have kk : ∀ (M8 : ab_M) (z2 : Option Value) (s9 : rS), s9 = k_fill i s → RR g M8 a0 ρ s9 → KR M M8 → AW l g ab_X0 (ab_Z g (ab_Qv (fun M' => RR g M' a0 ρ (m_3 nf nj nm σ) ∧ KR M M'))) Y_X9_minute 3 68 0 0 68 [some (.ref a0), some (.int (nI (i + 1))), z2] [] M8 := fun M8 z2 s9 e9 hR hK => by subst e9; exact kk M8 ⟨hR, hK⟩ (rK_kfill.N hNs) z2
    refine aw_iload_n dX9_minute_68 rfl ?_
    refine aw_aload_n dX9_minute_69 rfl ?_
    refine aw_get dX9_minute_70 fg_X9_119_10 hR.1 rfl ?_
    refine aw_icmp_ge (tgt := 96) dX9_minute_73 (by decide) (fun h73 => absurd (show s.1 0 ≤ nI i from h73) (by rw [hn0]; exact nI_ge h1 (by omega))) (fun h73 => ?_)
    refine aw_aload_n dX9_minute_76 rfl ?_
    refine aw_get dX9_minute_77 fg_X9_16_10 hR.1 rfl ?_
    refine aw_iload_n dX9_minute_80 rfl ?_
    refine aw_zald dX9_minute_81 (rr_3 hR) (by first | assumption | (unfold vp_in; decide)) ?_
    refine aw_if_eq (tgt := 90) dX9_minute_82 (by decide) (fun h82 => ?_) (fun h82 => ?_)
    · refine aw_iinc dX9_minute_90 rfl (ii_1 i) rfl (by decide) ?_
      refine aw_goto (tgt := 68) dX9_minute_93 (by decide) ?_
      first | (exact kk _ _ _ (by rw [k_fill, if_pos h82]) hR hK) | (exact kk _ _ _ (by rw [k_fill, if_neg h82]) hR hK)
    · refine aw_aload_n dX9_minute_85 rfl ?_
      refine aw_iload_n dX9_minute_86 rfl ?_
      refine aw_V1v (kc' := 0) (ks' := 0) dX9_minute_87 cs_X9_198_10 hR.1 (r_fill hR hI hi) rfl (Nat.le_of_ble_eq_true rfl) (fun M87 h87 => ?_)
      obtain ⟨hR, hK87⟩ := h87
      replace hK := hK.tr hK87
      refine aw_iinc dX9_minute_90 rfl (ii_1 i) rfl (by decide) ?_
      refine aw_goto (tgt := 68) dX9_minute_93 (by decide) ?_
      first | (exact kk _ _ _ (by rw [k_fill, if_pos h82]) hR hK) | (exact kk _ _ _ (by rw [k_fill, if_neg h82]) hR hK)
  · intro M9 hp hNs z2
    obtain ⟨hR, hK⟩ := id hp
    obtain ⟨hI, hn0, hn5, hn12, hb0, hb5, hb12⟩ := id hNs
    generalize hs : lp k_fill 0 nf σ = s at *
    refine aw_iload_n dX9_minute_68 rfl ?_
    refine aw_aload_n dX9_minute_69 rfl ?_
    refine aw_get dX9_minute_70 fg_X9_119_10 hR.1 rfl ?_
    refine aw_icmp_ge (tgt := 96) dX9_minute_73 (by decide) (fun h73 => ?_) (fun h73 => absurd (show s.1 0 ≤ nI nf by rw [hn0]; exact Int32.le_refl _) h73)
    exact (show m_3 nf nj nm σ = m_4 nf nj nm s by rw [m_3, hs]) ▸ rm_4 hNs hp _ _ rfl
set_option maxRecDepth 100000 in
set_option maxHeartbeats 4000000 in
theorem rm_2 {l : Launch} {g : ab_G} {M : ab_M} {a0 : Nat} {ρ : Nat → Nat} {nf nj nm : Nat} {σ : rS} (hN : rN nf nj nm σ) {M9 : ab_M} (hp : rP g a0 ρ M σ M9) (z1 z2 : Option Value) (hz1 : ab_ok1 [some (.ref a0), z1, z2] 2 = true) : AW l g ab_X0 (ab_Z g (ab_Qv (fun M' => RR g M' a0 ρ (m_2 nf nj nm σ) ∧ KR M M'))) Y_X9_minute 3 68 0 0 36 [some (.ref a0), z1, z2] [] M9 := by
  obtain ⟨hR, hK⟩ := id hp
  refine aw_iconst (v := 0) dX9_minute_36 (by decide) ?_
  refine aw_istore_n dX9_minute_37 rfl (by decide) ?_
  refine gl (rP g a0 ρ M) (fun i s M9 => ∀ z2 : Option Value, AW l g ab_X0 (ab_Z g (ab_Qv (fun M' => RR g M' a0 ρ (m_2 nf nj nm σ) ∧ KR M M'))) Y_X9_minute 3 68 0 0 38 [some (.ref a0), some (.int (nI i)), z2] [] M9) k_flow (fun i s => rN nf nj nm s) nf (fun i s h1 h2 => rK_kflow.N h2) ?_ nf 0 σ M9 (Nat.zero_add _) hN ⟨hR, hK⟩ ?_ z2
  · intro i s M9 h1 hNs hp kk z2
    obtain ⟨hR, hK⟩ := id hp
    obtain ⟨hI, hn0, hn5, hn12, hb0, hb5, hb12⟩ := id hNs
    have hi : vp_in (nI i) 4 := vp_in_nI (by omega) (by omega)
    have kk : ∀ (M8 : ab_M) (z2 : Option Value) (s9 : rS), s9 = k_flow i s → RR g M8 a0 ρ s9 → KR M M8 → AW l g ab_X0 (ab_Z g (ab_Qv (fun M' => RR g M' a0 ρ (m_2 nf nj nm σ) ∧ KR M M'))) Y_X9_minute 3 68 0 0 38 [some (.ref a0), some (.int (nI (i + 1))), z2] [] M8 := fun M8 z2 s9 e9 hR hK => by subst e9; exact kk M8 ⟨hR, hK⟩ (rK_kflow.N hNs) z2
    refine aw_iload_n dX9_minute_38 rfl ?_
    refine aw_aload_n dX9_minute_39 rfl ?_
    refine aw_get dX9_minute_40 fg_X9_119_10 hR.1 rfl ?_
    refine aw_icmp_ge (tgt := 66) dX9_minute_43 (by decide) (fun h43 => absurd (show s.1 0 ≤ nI i from h43) (by rw [hn0]; exact nI_ge h1 (by omega))) (fun h43 => ?_)
    refine aw_aload_n dX9_minute_46 rfl ?_
    refine aw_get dX9_minute_47 fg_X9_16_10 hR.1 rfl ?_
    refine aw_iload_n dX9_minute_50 rfl ?_
    refine aw_zald dX9_minute_51 (rr_3 hR) (by first | assumption | (unfold vp_in; decide)) ?_
    refine aw_if_eq (tgt := 60) dX9_minute_52 (by decide) (fun h52 => ?_) (fun h52 => ?_)
    · refine aw_iinc dX9_minute_60 rfl (ii_1 i) rfl (by decide) ?_
      refine aw_goto (tgt := 38) dX9_minute_63 (by decide) ?_
      first | (exact kk _ _ _ (by rw [k_flow, if_pos h52]) hR hK) | (exact kk _ _ _ (by rw [k_flow, if_neg h52]) hR hK)
    · refine aw_aload_n dX9_minute_55 rfl ?_
      refine aw_iload_n dX9_minute_56 rfl ?_
      refine aw_V1v (kc' := 0) (ks' := 0) dX9_minute_57 cs_X9_195_10 hR.1 (r_flow hR hi) rfl (Nat.le_of_ble_eq_true rfl) (fun M57 h57 => ?_)
      obtain ⟨hR, hK57⟩ := h57
      replace hK := hK.tr hK57
      refine aw_iinc dX9_minute_60 rfl (ii_1 i) rfl (by decide) ?_
      refine aw_goto (tgt := 38) dX9_minute_63 (by decide) ?_
      first | (exact kk _ _ _ (by rw [k_flow, if_pos h52]) hR hK) | (exact kk _ _ _ (by rw [k_flow, if_neg h52]) hR hK)
  · intro M9 hp hNs z2
    obtain ⟨hR, hK⟩ := id hp
    obtain ⟨hI, hn0, hn5, hn12, hb0, hb5, hb12⟩ := id hNs
    generalize hs : lp k_flow 0 nf σ = s at *
    refine aw_iload_n dX9_minute_38 rfl ?_
    refine aw_aload_n dX9_minute_39 rfl ?_
    refine aw_get dX9_minute_40 fg_X9_119_10 hR.1 rfl ?_
    refine aw_icmp_ge (tgt := 66) dX9_minute_43 (by decide) (fun h43 => ?_) (fun h43 => absurd (show s.1 0 ≤ nI nf by rw [hn0]; exact Int32.le_refl _) h43)
    exact (show m_2 nf nj nm σ = m_3 nf nj nm s by rw [m_2, hs]) ▸ rm_3 hNs hp _ _ rfl
set_option maxRecDepth 100000 in
set_option maxHeartbeats 4000000 in
theorem rm_1 {l : Launch} {g : ab_G} {M : ab_M} {a0 : Nat} {ρ : Nat → Nat} {nf nj nm : Nat} {σ : rS} (hN : rN nf nj nm σ) {M9 : ab_M} (hp : rP g a0 ρ M σ M9) (z1 z2 : Option Value) (hz1 : ab_ok1 [some (.ref a0), z1, z2] 2 = true) : AW l g ab_X0 (ab_Z g (ab_Qv (fun M' => RR g M' a0 ρ (m_1 nf nj nm σ) ∧ KR M M'))) Y_X9_minute 3 68 0 0 0 [some (.ref a0), z1, z2] [] M9 := by
  obtain ⟨hR, hK⟩ := id hp
  refine aw_iconst (v := 0) dX9_minute_0 (by decide) ?_
  refine aw_istore_n dX9_minute_1 rfl (by decide) ?_
  refine gl (rP g a0 ρ M) (fun i s M9 => ∀ z2 : Option Value, AW l g ab_X0 (ab_Z g (ab_Qv (fun M' => RR g M' a0 ρ (m_1 nf nj nm σ) ∧ KR M M'))) Y_X9_minute 3 68 0 0 2 [some (.ref a0), some (.int (nI i)), z2] [] M9) k_going (fun i s => rN nf nj nm s) nm (fun i s h1 h2 => rK_going.N h2) ?_ nm 0 σ M9 (Nat.zero_add _) hN ⟨hR, hK⟩ ?_ z2
  · intro i s M9 h1 hNs hp kk z2
    obtain ⟨hR, hK⟩ := id hp
    obtain ⟨hI, hn0, hn5, hn12, hb0, hb5, hb12⟩ := id hNs
    have hi : vp_in (nI i) 10 := vp_in_nI (by omega) (by omega)
    have kk : ∀ (M8 : ab_M) (z2 : Option Value) (s9 : rS), s9 = k_going i s → RR g M8 a0 ρ s9 → KR M M8 → AW l g ab_X0 (ab_Z g (ab_Qv (fun M' => RR g M' a0 ρ (m_1 nf nj nm σ) ∧ KR M M'))) Y_X9_minute 3 68 0 0 2 [some (.ref a0), some (.int (nI (i + 1))), z2] [] M8 := fun M8 z2 s9 e9 hR hK => by subst e9; exact kk M8 ⟨hR, hK⟩ (rK_going.N hNs) z2
    refine aw_iload_n dX9_minute_2 rfl ?_
    refine aw_aload_n dX9_minute_3 rfl ?_
    refine aw_get dX9_minute_4 fg_X9_126_10 hR.1 rfl ?_
    refine aw_icmp_ge (tgt := 36) dX9_minute_7 (by decide) (fun h7 => absurd (show s.1 12 ≤ nI i from h7) (by rw [hn12]; exact nI_ge h1 (by omega))) (fun h7 => ?_)
    refine aw_aload_n dX9_minute_10 rfl ?_
    refine aw_get dX9_minute_11 fg_X9_100_10 hR.1 rfl ?_
    refine aw_iload_n dX9_minute_14 rfl ?_
    refine aw_aload_n dX9_minute_15 rfl ?_
    refine aw_get dX9_minute_16 fg_X9_59_10 hR.1 rfl ?_
    refine aw_iload_n dX9_minute_19 rfl ?_
    refine aw_iald dX9_minute_20 (rr_19 hR) (by first | assumption | (unfold vp_in; decide)) ?_
    refine aw_if_eq (tgt := 28) dX9_minute_21 (by decide) (fun h21 => ?_) (fun h21 => ?_)
    · refine aw_iconst (v := 0) dX9_minute_28 (by decide) ?_
      refine rw_zast_37 dX9_minute_29 (by first | assumption | (unfold vp_in; decide)) hR hK (fun M hR hK => ?_)
      refine aw_iinc dX9_minute_30 rfl (ii_1 i) rfl (by decide) ?_
      refine aw_goto (tgt := 2) dX9_minute_33 (by decide) ?_
      first | (exact kk _ _ _ (by rw [k_going, if_pos (show rg s 19 (nI i) = 0 from h21)]) hR hK) | (exact kk _ _ _ (by rw [k_going, if_neg (show ¬ rg s 19 (nI i) = 0 from h21)]) hR hK)
    · refine aw_iconst (v := 1) dX9_minute_24 (by decide) ?_
      refine aw_goto (tgt := 29) dX9_minute_25 (by decide) ?_
      refine rw_zast_37 dX9_minute_29 (by first | assumption | (unfold vp_in; decide)) hR hK (fun M hR hK => ?_)
      refine aw_iinc dX9_minute_30 rfl (ii_1 i) rfl (by decide) ?_
      refine aw_goto (tgt := 2) dX9_minute_33 (by decide) ?_
      first | (exact kk _ _ _ (by rw [k_going, if_pos (show rg s 19 (nI i) = 0 from h21)]) hR hK) | (exact kk _ _ _ (by rw [k_going, if_neg (show ¬ rg s 19 (nI i) = 0 from h21)]) hR hK)
  · intro M9 hp hNs z2
    obtain ⟨hR, hK⟩ := id hp
    obtain ⟨hI, hn0, hn5, hn12, hb0, hb5, hb12⟩ := id hNs
    generalize hs : lp k_going 0 nm σ = s at *
    refine aw_iload_n dX9_minute_2 rfl ?_
    refine aw_aload_n dX9_minute_3 rfl ?_
    refine aw_get dX9_minute_4 fg_X9_126_10 hR.1 rfl ?_
    refine aw_icmp_ge (tgt := 36) dX9_minute_7 (by decide) (fun h7 => ?_) (fun h7 => absurd (show s.1 12 ≤ nI nm by rw [hn12]; exact Int32.le_refl _) h7)
    exact (show m_1 nf nj nm σ = m_2 nf nj nm s by rw [m_1, hs]) ▸ rm_2 hNs hp _ _ rfl
theorem minute_eq {nf nj nm : Nat} {σ : rS} (hN : rN nf nj nm σ) : f_minute σ = m_1 nf nj nm σ := by
  obtain ⟨hI, h0, h5, h12, hb0, hb5, hb12⟩ := hN
  rw [f_minute, h0, h5, h12, nI_cl (by omega), nI_cl (by omega), nI_cl (by omega)]
set_option maxRecDepth 100000 in
set_option maxHeartbeats 4000000 in
theorem r_minute {l : Launch} {g : ab_G} {M : ab_M} {a0 : Nat} {ρ : Nat → Nat} {σ : rS} (hR : RR g M a0 ρ σ) (hI : rI σ) : AM l g Y_X9_minute 3 68 0 0 [.ref a0] M (ab_Qv (fun M' => RR g M' a0 ρ (f_minute σ) ∧ KR M M')) := by
  obtain ⟨nf, nj, nm, hN⟩ := rN_of hI
  rw [minute_eq hN]
  refine AM.of [some (.ref a0), none, none] (by decide +kernel) (Nat.le_of_ble_eq_true rfl) rfl ?_
  exact rm_1 hN ⟨hR, KR.rf⟩ none none rfl
