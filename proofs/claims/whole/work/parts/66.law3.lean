/-! ===== the law: a call of each kind 2 ===== -/
theorem u_jar {g : ab_G} {M2 : ab_M} {α : Nat → Nat → Nat} {c : Int} {nf nj nm : Nat} {σ : rS} {κ : cS} {x : Int32} (hS : S c nf nj nm σ κ) {fl ho a b e d : Int32} (hd : (((q_in fl 0 9 && q_in ho 1 200) = false ∧ x = -1 ∧ ∃ β, β 0 0 = α 0 0 ∧ CC g M2 β nf nj nm κ) ∨ ((q_in fl 0 9 && q_in ho 1 200) = true ∧ ¬ okm nf (fm a b e d) ∧ x = -1 ∧ ∃ β, β 0 0 = α 0 0 ∧ CC g M2 β nf nj nm κ) ∨ ((q_in fl 0 9 && q_in ho 1 200) = true ∧ okm nf (fm a b e d) ∧ x = (g_jar2 nf nj κ fl ho (fm a b e d)).1 ∧ ∃ β, β 0 0 = α 0 0 ∧ CC g M2 β nf (g_jar2 nf nj κ fl ho (fm a b e d)).2.1 nm (g_jar2 nf nj κ fl ho (fm a b e d)).2.2))) : ∃ (β : Nat → Nat → Nat) (nf2 nj2 nm2 : Nat) (κ2 : cS), β 0 0 = α 0 0 ∧ CC g M2 β nf2 nj2 nm2 κ2 ∧ x = (f_jar σ fl ho a b e d).1 ∧ S (c + 1) nf2 nj2 nm2 (f_jar σ fl ho a b e d).2 κ2 := by
  rcases hd with ⟨h1, rfl, β, eβ, hC⟩ | ⟨h1, h2, rfl, β, eβ, hC⟩ | ⟨h1, h2, rfl, β, eβ, hC⟩
  · have e9 := jar_bad hS (fl := fl) (ho := ho) (a := a) (b := b) (e := e) (d := d) (Or.inl h1)
    rw [e9]; exact ⟨β, nf, nj, nm, κ, eβ, hC, rfl, hS.up⟩
  · have e9 := jar_bad hS (fl := fl) (ho := ho) (a := a) (b := b) (e := e) (d := d) (Or.inr h2)
    rw [e9]; exact ⟨β, nf, nj, nm, κ, eβ, hC, rfl, hS.up⟩
  · exact ⟨β, _, _, _, _, eβ, hC, (s_jar hS h1 h2).1, (s_jar hS h1 h2).2⟩
theorem u_man {g : ab_G} {M2 : ab_M} {α : Nat → Nat → Nat} {c : Int} {nf nj nm : Nat} {σ : rS} {κ : cS} {x : Int32} (hS : S c nf nj nm σ κ) (hct : c ≤ 1000) {kk w ff jj : Int32} (hd : ((((q_in kk 0 2 && q_in w 1 40) = false ∨ q_isF κ.1 ff = false ∨ q_isJ κ.1 jj = false) ∧ x = -1 ∧ CC g M2 α nf nj nm κ) ∨ ∃ k f j, k < 3 ∧ f < nf ∧ j < nj ∧ kk = nI k ∧ ff = nI f ∧ jj = nI j ∧ (q_in kk 0 2 && q_in w 1 40) = true ∧ q_isF κ.1 ff = true ∧ q_isJ κ.1 jj = true ∧ x = (g_man nm κ k f j w).1 ∧ ∃ β, β 0 0 = α 0 0 ∧ CC g M2 β nf nj (g_man nm κ k f j w).2.1 (g_man nm κ k f j w).2.2)) : ∃ (β : Nat → Nat → Nat) (nf2 nj2 nm2 : Nat) (κ2 : cS), β 0 0 = α 0 0 ∧ CC g M2 β nf2 nj2 nm2 κ2 ∧ x = (f_man σ kk w ff jj).1 ∧ S (c + 1) nf2 nj2 nm2 (f_man σ kk w ff jj).2 κ2 := by
  rcases hd with ⟨h1, rfl, hC⟩ | ⟨k, f, j, hk, hf, hj, rfl, rfl, rfl, h1, h2, h3, rfl, β, eβ, hC⟩
  · have e9 := man_bad hS (k := kk) (w := w) (f := ff) (j := jj) h1
    rw [e9]; exact ⟨α, nf, nj, nm, κ, rfl, hC, rfl, hS.up⟩
  · exact ⟨β, _, _, _, _, eβ, hC, (s_man hS hct hk hf hj h1 h2 h3).1, (s_man hS hct hk hf hj h1 h2 h3).2⟩
theorem u_moves {g : ab_G} {M2 : ab_M} {α : Nat → Nat → Nat} {c : Int} {nf nj nm : Nat} {σ : rS} {κ : cS} {x : Int32} (hS : S c nf nj nm σ κ) (hct : c ≤ 1000) {mm ff jj : Int32} (hd : (((q_isM κ.1 mm = false ∨ q_isF κ.1 ff = false ∨ q_isJ κ.1 jj = false) ∧ x = -1 ∧ CC g M2 α nf nj nm κ) ∨ ∃ m f j, m < nm ∧ f < nf ∧ j < nj ∧ mm = nI m ∧ ff = nI f ∧ jj = nI j ∧ q_isM κ.1 mm = true ∧ q_isF κ.1 ff = true ∧ q_isJ κ.1 jj = true ∧ x = (g_moves κ m f j).1 ∧ CC g M2 α nf nj nm (g_moves κ m f j).2)) : ∃ (β : Nat → Nat → Nat) (nf2 nj2 nm2 : Nat) (κ2 : cS), β 0 0 = α 0 0 ∧ CC g M2 β nf2 nj2 nm2 κ2 ∧ x = (f_moves σ mm ff jj).1 ∧ S (c + 1) nf2 nj2 nm2 (f_moves σ mm ff jj).2 κ2 := by
  rcases hd with ⟨h1, rfl, hC⟩ | ⟨m, f, j, hm, hf, hj, rfl, rfl, rfl, h1, h2, h3, rfl, hC⟩
  · have e9 := moves_bad hS (m := mm) (f := ff) (j := jj) h1
    rw [e9]; exact ⟨α, nf, nj, nm, κ, rfl, hC, rfl, hS.up⟩
  · exact ⟨α, _, _, _, _, rfl, hC, (s_moves hS hct hm hf hj h1 h2 h3).1, (s_moves hS hct hm hf hj h1 h2 h3).2⟩
theorem u_told {c : Int} {nf nj nm : Nat} {σ : rS} {κ : cS} {x : Int32} (hS : S c nf nj nm σ κ) {m w : Int32} (hd : (q_isM κ.1 m = false ∧ x = -1) ∨ ∃ k, k < nm ∧ m = nI k ∧ q_isM κ.1 m = true ∧ x = g_told κ k w) : x = f_told σ m w := by
  rcases hd with ⟨h1, rfl⟩ | ⟨k, hk, hm, h1, rfl⟩
  · have e9 : q_isM σ m = false := by
      rw [← h1]; simp only [q_isM, hS.1.1.2.1 12 rfl]
    rw [f_told, if_neg (by rw [e9]; decide)]
  · exact s_told hS hk hm
theorem gc_eq {c : Int} {nf nj nm : Nat} {σ : rS} {κ : cS} (hS : S c nf nj nm σ κ) {mm jj nn : Int32} : gcond σ mm jj nn = (q_in nn 1 6 && (q_in mm 0 (κ.1.1 12 - nn) && q_in jj 0 (κ.1.1 5 - nn))) := by
  rw [gcond, hS.1.1.2.1 12 rfl, hS.1.1.2.1 5 rfl]
theorem tape_of {c : Int} {nf nj nm : Nat} {σ : rS} {κ : cS} (hS : S c nf nj nm σ κ) : ∃ n, tT κ.1 n ∧ ∀ q, q < n → 0 ≤ (κ.1.2.1 30 q).toInt := by
  obtain ⟨n, hn, e⟩ := hS.1.2.2.1.2.2.2.2.2.1
  refine ⟨n, ⟨e, hn⟩, fun q hq => ?_⟩
  rw [hS.1.1.1 30 rfl]
  refine hS.1.2.2.2.2.2.2.2.2.2.2.2.2.2.1 q ?_
  rw [← hS.1.1.2.1 31 rfl, e, nI_cl (by omega)]; exact hq
theorem rows_of {c : Int} {nf nj nm : Nat} {σ : rS} {κ : cS} (hS : S c nf nj nm σ κ) : ∀ i, i < nf → ∀ x ∈ κ.2.1 i, x < nm := by
  intro i hi x hx
  exact ((hS.1.2.2.1.2.2.2.2.2.2.2.2.2 i hi).2 x hx).1

theorem u_give {g : ab_G} {M2 M3 : ab_M} {α : Nat → Nat → Nat} {ρ : Nat → Nat} {a0 : Nat} {c : Int} {nf nj nm : Nat} {σ : rS} {κ : cS} {x y mm jj nn : Int32} (hS : S c nf nj nm σ κ) (hd : (((q_in nn 1 6 && (q_in mm 0 (κ.1.1 12 - nn) && q_in jj 0 (κ.1.1 5 - nn))) = false ∧ x = -1 ∧ CC g M2 α nf nj nm κ) ∨ ∃ n9 m9 j9, 0 < n9 ∧ n9 ≤ 6 ∧ m9 + n9 ≤ nm ∧ j9 + n9 ≤ nj ∧ nn = nI n9 ∧ mm = nI m9 ∧ jj = nI j9 ∧ (q_in nn 1 6 && (q_in mm 0 (κ.1.1 12 - nn) && q_in jj 0 (κ.1.1 5 - nn))) = true ∧ x = (g_give κ m9 j9 n9).1 ∧ CC g M2 α nf nj nm (g_give κ m9 j9 n9).2)) (hr : ((gcond σ mm jj nn = false ∧ y = -1 ∧ RR g M3 a0 ρ σ) ∨ ∃ n9 m9 j9, 0 < n9 ∧ n9 ≤ 6 ∧ m9 + n9 ≤ nm ∧ j9 + n9 ≤ nj ∧ nn = nI n9 ∧ mm = nI m9 ∧ jj = nI j9 ∧ gcond σ mm jj nn = true ∧ y = (f_give2 σ m9 j9 n9).1 ∧ RR g M3 a0 ρ (f_give2 σ m9 j9 n9).2)) (hK : KR M2 M3) : x = y ∧ JS g M3 (α 0 0) a0 (c + 1) := by
  have hb := hS.1.2.2.1.1
  rcases hd with ⟨h1, rfl, hC⟩ | ⟨n, m, j, hn0, hn, hm, hj, rfl, rfl, rfl, h1, rfl, hC⟩
  · rcases hr with ⟨h2, rfl, hR⟩ | ⟨n, m, j, hn0, hn, hm, hj, rfl, rfl, rfl, h2, rfl, hR⟩
    · exact ⟨rfl, α, ρ, nf, nj, nm, σ, κ, rfl, hC.kr hK, hR, hS.up⟩
    · rw [gc_eq hS, h1] at h2; cases h2
  · rcases hr with ⟨h2, rfl, hR⟩ | ⟨n', m', j', hn0', hn', hm', hj', e1, e2, e3, h2, rfl, hR⟩
    · rw [gc_eq hS, h1] at h2; cases h2
    · have e1 := (nI_eq_iff (by omega) (by omega)).mp e1
      have e2 := (nI_eq_iff (by omega) (by omega)).mp e2
      have e3 := (nI_eq_iff (by omega) (by omega)).mp e3
      subst e1 e2 e3
      exact ⟨(s_give hS hn0 hn hm hj).1, α, ρ, nf, nj, nm, _, _, rfl, hC.kr hK, hR, (s_give hS hn0 hn hm hj).2⟩
set_option maxRecDepth 100000 in
set_option maxHeartbeats 4000000 in
theorem lc_1 {l : Launch} {nm : String} {g : ab_G} {b N ax am t r : Nat} {xs : Nat → Int32} {M : ab_M} (hN : N ≤ 3584) (ht : 7 * t + 7 ≤ N) (hJ : JS g M ax am t) (kk : ∀ M', JS g M' ax am ((t : Int) + 1) → AW l g (XL g b N xs) ZL (YL nm) 13 482 (3 * r) (33 * r) 901 [some (.ref b), some (.ref ax), some (.ref am), some (.int (nI (7 * t)))] [] M') : AW l g (XL g b N xs) ZL (YL nm) 13 482 (3 * r + 3) (33 * r + 33) 159 [some (.ref b), some (.ref ax), some (.ref am), some (.int (nI (7 * t)))] [] M := by
  obtain ⟨α, ρ, nf, nj, nm, σ, κ, rfl, hC, hR, hS⟩ := hJ
  have hct : (t : Int) ≤ 1000 := by omega
  have i1 : vp_in (nI (7 * t) + 1) N := idx7 ht hN (k := 1) (by omega)
  have i2 : vp_in (nI (7 * t) + 2) N := idx7 ht hN (k := 2) (by omega)
  have i3 : vp_in (nI (7 * t) + 3) N := idx7 ht hN (k := 3) (by omega)
  have i4 : vp_in (nI (7 * t) + 4) N := idx7 ht hN (k := 4) (by omega)
  have i5 : vp_in (nI (7 * t) + 5) N := idx7 ht hN (k := 5) (by omega)
  have i6 : vp_in (nI (7 * t) + 6) N := idx7 ht hN (k := 6) (by omega)
  have hb := hS.1.2.2.1.1
  refine aw_aload_n dL_law_159 rfl ?_
  refine aw_aload_n dL_law_160 rfl ?_
  refine aw_iload_n dL_law_161 rfl ?_
  refine aw_iconst (v := 1) dL_law_162 (by decide) ?_
  refine aw_iadd dL_law_163 ?_
  refine aw_sld dL_law_164 (by assumption) ?_
  refine aw_aload_n dL_law_165 rfl ?_
  refine aw_iload_n dL_law_166 rfl ?_
  refine aw_iconst (v := 2) dL_law_167 (by decide) ?_
  refine aw_iadd dL_law_168 ?_
  refine aw_sld dL_law_169 (by assumption) ?_
  refine aw_aload_n dL_law_170 rfl ?_
  refine aw_iload_n dL_law_171 rfl ?_
  refine aw_iconst (v := 3) dL_law_172 (by decide) ?_
  refine aw_iadd dL_law_173 ?_
  refine aw_sld dL_law_174 (by assumption) ?_
  refine aw_aload_n dL_law_175 rfl ?_
  refine aw_iload_n dL_law_176 rfl ?_
  refine aw_iconst (v := 4) dL_law_177 (by decide) ?_
  refine aw_iadd dL_law_178 ?_
  refine aw_sld dL_law_179 (by assumption) ?_
  refine aw_aload_n dL_law_180 rfl ?_
  refine aw_iload_n dL_law_181 rfl ?_
  refine aw_iconst (v := 5) dL_law_182 (by decide) ?_
  refine aw_iadd dL_law_183 ?_
  refine aw_sld dL_law_184 (by assumption) ?_
  refine aw_aload_n dL_law_185 rfl ?_
  refine aw_iload_n dL_law_186 rfl ?_
  refine aw_bipush (v := 6) dL_law_187 (by decide) ?_
  refine aw_iadd dL_law_189 ?_
  refine aw_sld dL_law_190 (by assumption) ?_
  refine aw_V6i (kc' := 3 * r) (ks' := 33 * r) dL_law_191 cs_L_18_9 hC.1 (c_jar hC hS.1.2.2.1.z) (ab_fit_mk (Nat.le_of_ble_eq_true rfl) (Nat.le_of_ble_eq_true rfl) (by omega) (by omega)) (Nat.le_of_ble_eq_true rfl) (fun x191 M191 h191 => ?_)
  obtain ⟨hd191, hKH⟩ := h191
  obtain ⟨β, nf2, nj2, nm2, κ2, eβ, hC, e191, hS2⟩ := u_jar hS hd191
  replace hR := hR.kh hKH
  refine aw_aload_n dL_law_194 rfl ?_
  refine aw_aload_n dL_law_195 rfl ?_
  refine aw_iload_n dL_law_196 rfl ?_
  refine aw_iconst (v := 1) dL_law_197 (by decide) ?_
  refine aw_iadd dL_law_198 ?_
  refine aw_sld dL_law_199 (by assumption) ?_
  refine aw_aload_n dL_law_200 rfl ?_
  refine aw_iload_n dL_law_201 rfl ?_
  refine aw_iconst (v := 2) dL_law_202 (by decide) ?_
  refine aw_iadd dL_law_203 ?_
  refine aw_sld dL_law_204 (by assumption) ?_
  refine aw_aload_n dL_law_205 rfl ?_
  refine aw_iload_n dL_law_206 rfl ?_
  refine aw_iconst (v := 3) dL_law_207 (by decide) ?_
  refine aw_iadd dL_law_208 ?_
  refine aw_sld dL_law_209 (by assumption) ?_
  refine aw_aload_n dL_law_210 rfl ?_
  refine aw_iload_n dL_law_211 rfl ?_
  refine aw_iconst (v := 4) dL_law_212 (by decide) ?_
  refine aw_iadd dL_law_213 ?_
  refine aw_sld dL_law_214 (by assumption) ?_
  refine aw_aload_n dL_law_215 rfl ?_
  refine aw_iload_n dL_law_216 rfl ?_
  refine aw_iconst (v := 5) dL_law_217 (by decide) ?_
  refine aw_iadd dL_law_218 ?_
  refine aw_sld dL_law_219 (by assumption) ?_
  refine aw_aload_n dL_law_220 rfl ?_
  refine aw_iload_n dL_law_221 rfl ?_
  refine aw_bipush (v := 6) dL_law_222 (by decide) ?_
  refine aw_iadd dL_law_224 ?_
  refine aw_sld dL_law_225 (by assumption) ?_
  refine aw_V6i (kc' := 3 * r) (ks' := 33 * r) dL_law_226 cs_L_22_10 hR.1 (r_jar hR hS.1.2.1.1) (ab_fit_mk (Nat.le_of_ble_eq_true rfl) (Nat.le_of_ble_eq_true rfl) (by omega) (by omega)) (Nat.le_of_ble_eq_true rfl) (fun x226 M226 h226 => ?_)
  obtain ⟨e226, hR, hKR⟩ := h226
  replace hC := hC.kr hKR
  have hJ9 : JS g M226 (α 0 0) am ((t : Int) + 1) := ⟨β, ρ, nf2, nj2, nm2, _, κ2, eβ, hC, hR, hS2⟩
  refine aw_icmp_eq (tgt := 901) dL_law_229 (by decide) (fun h229 => ?_) (fun h229 => absurd (by rw [e191, e226]) h229)
  exact kk _ hJ9
set_option maxRecDepth 100000 in
set_option maxHeartbeats 4000000 in
theorem lc_3 {l : Launch} {nm : String} {g : ab_G} {b N ax am t r : Nat} {xs : Nat → Int32} {M : ab_M} (hN : N ≤ 3584) (ht : 7 * t + 7 ≤ N) (hJ : JS g M ax am t) (kk : ∀ M', JS g M' ax am ((t : Int) + 1) → AW l g (XL g b N xs) ZL (YL nm) 13 482 (3 * r) (33 * r) 901 [some (.ref b), some (.ref ax), some (.ref am), some (.int (nI (7 * t)))] [] M') : AW l g (XL g b N xs) ZL (YL nm) 13 482 (3 * r + 3) (33 * r + 33) 267 [some (.ref b), some (.ref ax), some (.ref am), some (.int (nI (7 * t)))] [] M := by
  obtain ⟨α, ρ, nf, nj, nm, σ, κ, rfl, hC, hR, hS⟩ := hJ
  have hct : (t : Int) ≤ 1000 := by omega
  have i1 : vp_in (nI (7 * t) + 1) N := idx7 ht hN (k := 1) (by omega)
  have i2 : vp_in (nI (7 * t) + 2) N := idx7 ht hN (k := 2) (by omega)
  have i3 : vp_in (nI (7 * t) + 3) N := idx7 ht hN (k := 3) (by omega)
  have i4 : vp_in (nI (7 * t) + 4) N := idx7 ht hN (k := 4) (by omega)
  have i5 : vp_in (nI (7 * t) + 5) N := idx7 ht hN (k := 5) (by omega)
  have i6 : vp_in (nI (7 * t) + 6) N := idx7 ht hN (k := 6) (by omega)
  have hb := hS.1.2.2.1.1
  refine aw_aload_n dL_law_267 rfl ?_
  refine aw_aload_n dL_law_268 rfl ?_
  refine aw_iload_n dL_law_269 rfl ?_
  refine aw_iconst (v := 1) dL_law_270 (by decide) ?_
  refine aw_iadd dL_law_271 ?_
  refine aw_sld dL_law_272 (by assumption) ?_
  refine aw_aload_n dL_law_273 rfl ?_
  refine aw_iload_n dL_law_274 rfl ?_
  refine aw_iconst (v := 2) dL_law_275 (by decide) ?_
  refine aw_iadd dL_law_276 ?_
  refine aw_sld dL_law_277 (by assumption) ?_
  refine aw_aload_n dL_law_278 rfl ?_
  refine aw_iload_n dL_law_279 rfl ?_
  refine aw_iconst (v := 3) dL_law_280 (by decide) ?_
  refine aw_iadd dL_law_281 ?_
  refine aw_sld dL_law_282 (by assumption) ?_
  refine aw_aload_n dL_law_283 rfl ?_
  refine aw_iload_n dL_law_284 rfl ?_
  refine aw_iconst (v := 4) dL_law_285 (by decide) ?_
  refine aw_iadd dL_law_286 ?_
  refine aw_sld dL_law_287 (by assumption) ?_
  refine aw_V4i (kc' := 3 * r) (ks' := 33 * r) dL_law_288 cs_L_28_9 hC.1 (c_man hC hS.1.2.2.1) (ab_fit_mk (Nat.le_of_ble_eq_true rfl) (Nat.le_of_ble_eq_true rfl) (by omega) (by omega)) (Nat.le_of_ble_eq_true rfl) (fun x288 M288 h288 => ?_)
  obtain ⟨hd288, hKH⟩ := h288
  obtain ⟨β, nf2, nj2, nm2, κ2, eβ, hC, e288, hS2⟩ := u_man hS hct hd288
  replace hR := hR.kh hKH
  refine aw_aload_n dL_law_291 rfl ?_
  refine aw_aload_n dL_law_292 rfl ?_
  refine aw_iload_n dL_law_293 rfl ?_
  refine aw_iconst (v := 1) dL_law_294 (by decide) ?_
  refine aw_iadd dL_law_295 ?_
  refine aw_sld dL_law_296 (by assumption) ?_
  refine aw_aload_n dL_law_297 rfl ?_
  refine aw_iload_n dL_law_298 rfl ?_
  refine aw_iconst (v := 2) dL_law_299 (by decide) ?_
  refine aw_iadd dL_law_300 ?_
  refine aw_sld dL_law_301 (by assumption) ?_
  refine aw_aload_n dL_law_302 rfl ?_
  refine aw_iload_n dL_law_303 rfl ?_
  refine aw_iconst (v := 3) dL_law_304 (by decide) ?_
  refine aw_iadd dL_law_305 ?_
  refine aw_sld dL_law_306 (by assumption) ?_
  refine aw_aload_n dL_law_307 rfl ?_
  refine aw_iload_n dL_law_308 rfl ?_
  refine aw_iconst (v := 4) dL_law_309 (by decide) ?_
  refine aw_iadd dL_law_310 ?_
  refine aw_sld dL_law_311 (by assumption) ?_
  refine aw_V4i (kc' := 3 * r) (ks' := 33 * r) dL_law_312 cs_L_32_10 hR.1 (r_man hR hS.1.2.1.1) (ab_fit_mk (Nat.le_of_ble_eq_true rfl) (Nat.le_of_ble_eq_true rfl) (by omega) (by omega)) (Nat.le_of_ble_eq_true rfl) (fun x312 M312 h312 => ?_)
  obtain ⟨e312, hR, hKR⟩ := h312
  replace hC := hC.kr hKR
  have hJ9 : JS g M312 (α 0 0) am ((t : Int) + 1) := ⟨β, ρ, nf2, nj2, nm2, _, κ2, eβ, hC, hR, hS2⟩
  refine aw_icmp_eq (tgt := 901) dL_law_315 (by decide) (fun h315 => ?_) (fun h315 => absurd (by rw [e288, e312]) h315)
  exact kk _ hJ9
set_option maxRecDepth 100000 in
set_option maxHeartbeats 4000000 in
theorem lc_6 {l : Launch} {nm : String} {g : ab_G} {b N ax am t r : Nat} {xs : Nat → Int32} {M : ab_M} (hN : N ≤ 3584) (ht : 7 * t + 7 ≤ N) (hJ : JS g M ax am t) (kk : ∀ M', JS g M' ax am ((t : Int) + 1) → AW l g (XL g b N xs) ZL (YL nm) 13 482 (3 * r) (33 * r) 901 [some (.ref b), some (.ref ax), some (.ref am), some (.int (nI (7 * t)))] [] M') : AW l g (XL g b N xs) ZL (YL nm) 13 482 (3 * r + 3) (33 * r + 33) 386 [some (.ref b), some (.ref ax), some (.ref am), some (.int (nI (7 * t)))] [] M := by
  obtain ⟨α, ρ, nf, nj, nm, σ, κ, rfl, hC, hR, hS⟩ := hJ
  have hct : (t : Int) ≤ 1000 := by omega
  have i1 : vp_in (nI (7 * t) + 1) N := idx7 ht hN (k := 1) (by omega)
  have i2 : vp_in (nI (7 * t) + 2) N := idx7 ht hN (k := 2) (by omega)
  have i3 : vp_in (nI (7 * t) + 3) N := idx7 ht hN (k := 3) (by omega)
  have i4 : vp_in (nI (7 * t) + 4) N := idx7 ht hN (k := 4) (by omega)
  have i5 : vp_in (nI (7 * t) + 5) N := idx7 ht hN (k := 5) (by omega)
  have i6 : vp_in (nI (7 * t) + 6) N := idx7 ht hN (k := 6) (by omega)
  have hb := hS.1.2.2.1.1
  refine aw_aload_n dL_law_386 rfl ?_
  refine aw_aload_n dL_law_387 rfl ?_
  refine aw_iload_n dL_law_388 rfl ?_
  refine aw_iconst (v := 1) dL_law_389 (by decide) ?_
  refine aw_iadd dL_law_390 ?_
  refine aw_sld dL_law_391 (by assumption) ?_
  refine aw_aload_n dL_law_392 rfl ?_
  refine aw_iload_n dL_law_393 rfl ?_
  refine aw_iconst (v := 2) dL_law_394 (by decide) ?_
  refine aw_iadd dL_law_395 ?_
  refine aw_sld dL_law_396 (by assumption) ?_
  refine aw_aload_n dL_law_397 rfl ?_
  refine aw_iload_n dL_law_398 rfl ?_
  refine aw_iconst (v := 3) dL_law_399 (by decide) ?_
  refine aw_iadd dL_law_400 ?_
  refine aw_sld dL_law_401 (by assumption) ?_
  refine aw_V3i (kc' := 3 * r) (ks' := 33 * r) dL_law_402 cs_L_41_9 hC.1 (c_moves hC hS.1.2.2.1) (ab_fit_mk (Nat.le_of_ble_eq_true rfl) (Nat.le_of_ble_eq_true rfl) (by omega) (by omega)) (Nat.le_of_ble_eq_true rfl) (fun x402 M402 h402 => ?_)
  obtain ⟨hd402, hKH⟩ := h402
  obtain ⟨β, nf2, nj2, nm2, κ2, eβ, hC, e402, hS2⟩ := u_moves hS hct hd402
  replace hR := hR.kh hKH
  refine aw_aload_n dL_law_405 rfl ?_
  refine aw_aload_n dL_law_406 rfl ?_
  refine aw_iload_n dL_law_407 rfl ?_
  refine aw_iconst (v := 1) dL_law_408 (by decide) ?_
  refine aw_iadd dL_law_409 ?_
  refine aw_sld dL_law_410 (by assumption) ?_
  refine aw_aload_n dL_law_411 rfl ?_
  refine aw_iload_n dL_law_412 rfl ?_
  refine aw_iconst (v := 2) dL_law_413 (by decide) ?_
  refine aw_iadd dL_law_414 ?_
  refine aw_sld dL_law_415 (by assumption) ?_
  refine aw_aload_n dL_law_416 rfl ?_
  refine aw_iload_n dL_law_417 rfl ?_
  refine aw_iconst (v := 3) dL_law_418 (by decide) ?_
  refine aw_iadd dL_law_419 ?_
  refine aw_sld dL_law_420 (by assumption) ?_
  refine aw_V3i (kc' := 3 * r) (ks' := 33 * r) dL_law_421 cs_L_45_10 hR.1 (r_moves hR hS.1.2.1.1) (ab_fit_mk (Nat.le_of_ble_eq_true rfl) (Nat.le_of_ble_eq_true rfl) (by omega) (by omega)) (Nat.le_of_ble_eq_true rfl) (fun x421 M421 h421 => ?_)
  obtain ⟨e421, hR, hKR⟩ := h421
  replace hC := hC.kr hKR
  have hJ9 : JS g M421 (α 0 0) am ((t : Int) + 1) := ⟨β, ρ, nf2, nj2, nm2, _, κ2, eβ, hC, hR, hS2⟩
  refine aw_icmp_eq (tgt := 901) dL_law_424 (by decide) (fun h424 => ?_) (fun h424 => absurd (by rw [e402, e421]) h424)
  exact kk _ hJ9
set_option maxRecDepth 100000 in
set_option maxHeartbeats 4000000 in
theorem lc_13 {l : Launch} {nm : String} {g : ab_G} {b N ax am t r : Nat} {xs : Nat → Int32} {M : ab_M} (hN : N ≤ 3584) (ht : 7 * t + 7 ≤ N) (hJ : JS g M ax am t) (kk : ∀ M', JS g M' ax am ((t : Int) + 1) → AW l g (XL g b N xs) ZL (YL nm) 13 482 (3 * r) (33 * r) 901 [some (.ref b), some (.ref ax), some (.ref am), some (.int (nI (7 * t)))] [] M') : AW l g (XL g b N xs) ZL (YL nm) 13 482 (3 * r + 3) (33 * r + 33) 623 [some (.ref b), some (.ref ax), some (.ref am), some (.int (nI (7 * t)))] [] M := by
  obtain ⟨α, ρ, nf, nj, nm, σ, κ, rfl, hC, hR, hS⟩ := hJ
  have hct : (t : Int) ≤ 1000 := by omega
  have i1 : vp_in (nI (7 * t) + 1) N := idx7 ht hN (k := 1) (by omega)
  have i2 : vp_in (nI (7 * t) + 2) N := idx7 ht hN (k := 2) (by omega)
  have i3 : vp_in (nI (7 * t) + 3) N := idx7 ht hN (k := 3) (by omega)
  have i4 : vp_in (nI (7 * t) + 4) N := idx7 ht hN (k := 4) (by omega)
  have i5 : vp_in (nI (7 * t) + 5) N := idx7 ht hN (k := 5) (by omega)
  have i6 : vp_in (nI (7 * t) + 6) N := idx7 ht hN (k := 6) (by omega)
  have hb := hS.1.2.2.1.1
  refine aw_aload_n dL_law_623 rfl ?_
  refine aw_aload_n dL_law_624 rfl ?_
  refine aw_iload_n dL_law_625 rfl ?_
  refine aw_iconst (v := 1) dL_law_626 (by decide) ?_
  refine aw_iadd dL_law_627 ?_
  refine aw_sld dL_law_628 (by assumption) ?_
  refine aw_aload_n dL_law_629 rfl ?_
  refine aw_iload_n dL_law_630 rfl ?_
  refine aw_iconst (v := 2) dL_law_631 (by decide) ?_
  refine aw_iadd dL_law_632 ?_
  refine aw_sld dL_law_633 (by assumption) ?_
  refine aw_V2i (kc' := 3 * r) (ks' := 33 * r) dL_law_634 cs_L_75_9 hC.1 (c_told hC hS.1.2.2.1.z (rows_of hS)) (ab_fit_mk (Nat.le_of_ble_eq_true rfl) (Nat.le_of_ble_eq_true rfl) (by omega) (by omega)) (Nat.le_of_ble_eq_true rfl) (fun x634 M634 h634 => ?_)
  obtain ⟨e634, em634⟩ := h634
  replace em634 := em634.symm
  subst em634
  refine aw_aload_n dL_law_637 rfl ?_
  refine aw_aload_n dL_law_638 rfl ?_
  refine aw_iload_n dL_law_639 rfl ?_
  refine aw_iconst (v := 1) dL_law_640 (by decide) ?_
  refine aw_iadd dL_law_641 ?_
  refine aw_sld dL_law_642 (by assumption) ?_
  refine aw_aload_n dL_law_643 rfl ?_
  refine aw_iload_n dL_law_644 rfl ?_
  refine aw_iconst (v := 2) dL_law_645 (by decide) ?_
  refine aw_iadd dL_law_646 ?_
  refine aw_sld dL_law_647 (by assumption) ?_
  refine aw_V2i (kc' := 3 * r) (ks' := 33 * r) dL_law_648 cs_L_78_10 hR.1 (r_told hR hS.1.2.1.1) (ab_fit_mk (Nat.le_of_ble_eq_true rfl) (Nat.le_of_ble_eq_true rfl) (by omega) (by omega)) (Nat.le_of_ble_eq_true rfl) (fun x648 M648 h648 => ?_)
  obtain ⟨e648, em648⟩ := h648
  replace em648 := em648.symm
  subst em648
  have hJ9 : JS g M (α 0 0) am ((t : Int) + 1) := ⟨α, ρ, nf, nj, nm, σ, κ, rfl, hC, hR, hS.up⟩
  refine aw_icmp_eq (tgt := 901) dL_law_651 (by decide) (fun h651 => ?_) (fun h651 => absurd (by rw [e648]; exact u_told hS e634) h651)
  exact kk _ hJ9
set_option maxRecDepth 100000 in
set_option maxHeartbeats 4000000 in
theorem lc_9 {l : Launch} {nm : String} {g : ab_G} {b N ax am t r : Nat} {xs : Nat → Int32} {M : ab_M} (hN : N ≤ 3584) (ht : 7 * t + 7 ≤ N) (hJ : JS g M ax am t) (kk : ∀ M', JS g M' ax am ((t : Int) + 1) → AW l g (XL g b N xs) ZL (YL nm) 13 482 (3 * r) (33 * r) 901 [some (.ref b), some (.ref ax), some (.ref am), some (.int (nI (7 * t)))] [] M') : AW l g (XL g b N xs) ZL (YL nm) 13 482 (3 * r + 3) (33 * r + 33) 501 [some (.ref b), some (.ref ax), some (.ref am), some (.int (nI (7 * t)))] [] M := by
  obtain ⟨α, ρ, nf, nj, nm, σ, κ, rfl, hC, hR, hS⟩ := hJ
  have hct : (t : Int) ≤ 1000 := by omega
  have i1 : vp_in (nI (7 * t) + 1) N := idx7 ht hN (k := 1) (by omega)
  have i2 : vp_in (nI (7 * t) + 2) N := idx7 ht hN (k := 2) (by omega)
  have i3 : vp_in (nI (7 * t) + 3) N := idx7 ht hN (k := 3) (by omega)
  have i4 : vp_in (nI (7 * t) + 4) N := idx7 ht hN (k := 4) (by omega)
  have i5 : vp_in (nI (7 * t) + 5) N := idx7 ht hN (k := 5) (by omega)
  have i6 : vp_in (nI (7 * t) + 6) N := idx7 ht hN (k := 6) (by omega)
  have hb := hS.1.2.2.1.1
  obtain ⟨n9, hT, hN9⟩ := tape_of hS
  refine aw_aload_n dL_law_501 rfl ?_
  refine aw_aload_n dL_law_502 rfl ?_
  refine aw_iload_n dL_law_503 rfl ?_
  refine aw_iconst (v := 1) dL_law_504 (by decide) ?_
  refine aw_iadd dL_law_505 ?_
  refine aw_sld dL_law_506 (by assumption) ?_
  refine aw_i2l dL_law_507 ?_
  refine aw_bipush (v := 32) dL_law_508 (by decide) ?_
  refine aw_lshl dL_law_510 ?_
  refine aw_aload_n dL_law_511 rfl ?_
  refine aw_iload_n dL_law_512 rfl ?_
  refine aw_iconst (v := 2) dL_law_513 (by decide) ?_
  refine aw_iadd dL_law_514 ?_
  refine aw_sld dL_law_515 (by assumption) ?_
  refine aw_i2l dL_law_516 ?_
  refine aw_ldc2 dL_law_517 tw_1091 ?_
  refine aw_land dL_law_520 ?_
  refine aw_lor dL_law_521 ?_
  refine aw_aload_n dL_law_522 rfl ?_
  refine aw_iload_n dL_law_523 rfl ?_
  refine aw_iconst (v := 3) dL_law_524 (by decide) ?_
  refine aw_iadd dL_law_525 ?_
  refine aw_sld dL_law_526 (by assumption) ?_
  refine aw_V2i (kc' := 3 * r) (ks' := 33 * r) dL_law_527 cs_L_57_9 hC.1 (c_type hC hT) (ab_fit_mk (Nat.le_of_ble_eq_true rfl) (Nat.le_of_ble_eq_true rfl) (by omega) (by omega)) (Nat.le_of_ble_eq_true rfl) (fun x527 M527 h527 => ?_)
  obtain ⟨e527, hC, hKH⟩ := h527
  replace hR := hR.kh hKH
  refine aw_aload_n dL_law_530 rfl ?_
  refine aw_aload_n dL_law_531 rfl ?_
  refine aw_iload_n dL_law_532 rfl ?_
  refine aw_iconst (v := 1) dL_law_533 (by decide) ?_
  refine aw_iadd dL_law_534 ?_
  refine aw_sld dL_law_535 (by assumption) ?_
  refine aw_i2l dL_law_536 ?_
  refine aw_bipush (v := 32) dL_law_537 (by decide) ?_
  refine aw_lshl dL_law_539 ?_
  refine aw_aload_n dL_law_540 rfl ?_
  refine aw_iload_n dL_law_541 rfl ?_
  refine aw_iconst (v := 2) dL_law_542 (by decide) ?_
  refine aw_iadd dL_law_543 ?_
  refine aw_sld dL_law_544 (by assumption) ?_
  refine aw_i2l dL_law_545 ?_
  refine aw_ldc2 dL_law_546 tw_1091 ?_
  refine aw_land dL_law_549 ?_
  refine aw_lor dL_law_550 ?_
  refine aw_aload_n dL_law_551 rfl ?_
  refine aw_iload_n dL_law_552 rfl ?_
  refine aw_iconst (v := 3) dL_law_553 (by decide) ?_
  refine aw_iadd dL_law_554 ?_
  refine aw_sld dL_law_555 (by assumption) ?_
  refine aw_V2i (kc' := 3 * r) (ks' := 33 * r) dL_law_556 cs_L_61_10 hR.1 (r_type hR hS.1.2.1.1) (ab_fit_mk (Nat.le_of_ble_eq_true rfl) (Nat.le_of_ble_eq_true rfl) (by omega) (by omega)) (Nat.le_of_ble_eq_true rfl) (fun x556 M556 h556 => ?_)
  obtain ⟨e556, hR, hKR⟩ := h556
  replace hC := hC.kr hKR
  have hJ9 : JS g M556 (α 0 0) am ((t : Int) + 1) := ⟨α, ρ, nf, nj, nm, _, _, rfl, hC, hR, (s_type hS).2⟩
  refine aw_icmp_eq (tgt := 901) dL_law_559 (by decide) (fun h559 => ?_) (fun h559 => absurd (by rw [e527, e556]; exact (s_type hS).1) h559)
  exact kk _ hJ9
set_option maxRecDepth 100000 in
set_option maxHeartbeats 4000000 in
theorem lc_10 {l : Launch} {nm : String} {g : ab_G} {b N ax am t r : Nat} {xs : Nat → Int32} {M : ab_M} (hN : N ≤ 3584) (ht : 7 * t + 7 ≤ N) (hJ : JS g M ax am t) (kk : ∀ M', JS g M' ax am ((t : Int) + 1) → AW l g (XL g b N xs) ZL (YL nm) 13 482 (3 * r) (33 * r) 901 [some (.ref b), some (.ref ax), some (.ref am), some (.int (nI (7 * t)))] [] M') : AW l g (XL g b N xs) ZL (YL nm) 13 482 (3 * r + 3) (33 * r + 33) 564 [some (.ref b), some (.ref ax), some (.ref am), some (.int (nI (7 * t)))] [] M := by
  obtain ⟨α, ρ, nf, nj, nm, σ, κ, rfl, hC, hR, hS⟩ := hJ
  have hct : (t : Int) ≤ 1000 := by omega
  have i1 : vp_in (nI (7 * t) + 1) N := idx7 ht hN (k := 1) (by omega)
  have i2 : vp_in (nI (7 * t) + 2) N := idx7 ht hN (k := 2) (by omega)
  have i3 : vp_in (nI (7 * t) + 3) N := idx7 ht hN (k := 3) (by omega)
  have i4 : vp_in (nI (7 * t) + 4) N := idx7 ht hN (k := 4) (by omega)
  have i5 : vp_in (nI (7 * t) + 5) N := idx7 ht hN (k := 5) (by omega)
  have i6 : vp_in (nI (7 * t) + 6) N := idx7 ht hN (k := 6) (by omega)
  have hb := hS.1.2.2.1.1
  obtain ⟨n9, hT, hN9⟩ := tape_of hS
  refine aw_aload_n dL_law_564 rfl ?_
  refine aw_V0i (kc' := 3 * r) (ks' := 33 * r) dL_law_565 cs_L_62_9 hC.1 (c_fares hC hT hN9) (ab_fit_mk (Nat.le_of_ble_eq_true rfl) (Nat.le_of_ble_eq_true rfl) (by omega) (by omega)) (Nat.le_of_ble_eq_true rfl) (fun x565 M565 h565 => ?_)
  obtain ⟨e565, ⟨β, eβ, hC⟩, hKH⟩ := h565
  replace hR := hR.kh hKH
  refine aw_aload_n dL_law_568 rfl ?_
  refine aw_V0i (kc' := 3 * r) (ks' := 33 * r) dL_law_569 cs_L_66_10 hR.1 (r_fares hR hS.1.2.1.1) (ab_fit_mk (Nat.le_of_ble_eq_true rfl) (Nat.le_of_ble_eq_true rfl) (by omega) (by omega)) (Nat.le_of_ble_eq_true rfl) (fun x569 M569 h569 => ?_)
  obtain ⟨e569, hR, hKR⟩ := h569
  replace hC := hC.kr hKR
  have hJ9 : JS g M569 (α 0 0) am ((t : Int) + 1) := ⟨β, ρ, nf, nj, nm, _, _, eβ, hC, hR, (s_fares hS).2⟩
  refine aw_icmp_eq (tgt := 901) dL_law_572 (by decide) (fun h572 => ?_) (fun h572 => absurd (by rw [e565, e569]; exact (s_fares hS).1) h572)
  exact kk _ hJ9
set_option maxRecDepth 100000 in
set_option maxHeartbeats 4000000 in
theorem lc_15 {l : Launch} {nm : String} {g : ab_G} {b N ax am t r : Nat} {xs : Nat → Int32} {M : ab_M} (hN : N ≤ 3584) (ht : 7 * t + 7 ≤ N) (hJ : JS g M ax am t) (kk : ∀ M', JS g M' ax am ((t : Int) + 1) → AW l g (XL g b N xs) ZL (YL nm) 13 482 (3 * r) (33 * r) 901 [some (.ref b), some (.ref ax), some (.ref am), some (.int (nI (7 * t)))] [] M') : AW l g (XL g b N xs) ZL (YL nm) 13 482 (3 * r + 3) (33 * r + 33) 689 [some (.ref b), some (.ref ax), some (.ref am), some (.int (nI (7 * t)))] [] M := by
  obtain ⟨α, ρ, nf, nj, nm, σ, κ, rfl, hC, hR, hS⟩ := hJ
  have hct : (t : Int) ≤ 1000 := by omega
  have i1 : vp_in (nI (7 * t) + 1) N := idx7 ht hN (k := 1) (by omega)
  have i2 : vp_in (nI (7 * t) + 2) N := idx7 ht hN (k := 2) (by omega)
  have i3 : vp_in (nI (7 * t) + 3) N := idx7 ht hN (k := 3) (by omega)
  have i4 : vp_in (nI (7 * t) + 4) N := idx7 ht hN (k := 4) (by omega)
  have i5 : vp_in (nI (7 * t) + 5) N := idx7 ht hN (k := 5) (by omega)
  have i6 : vp_in (nI (7 * t) + 6) N := idx7 ht hN (k := 6) (by omega)
  have hb := hS.1.2.2.1.1
  refine aw_aload_n dL_law_689 rfl ?_
  refine aw_aload_n dL_law_690 rfl ?_
  refine aw_iload_n dL_law_691 rfl ?_
  refine aw_iconst (v := 1) dL_law_692 (by decide) ?_
  refine aw_iadd dL_law_693 ?_
  refine aw_sld dL_law_694 (by assumption) ?_
  refine aw_V1l (kc' := 3 * r) (ks' := 33 * r) dL_law_695 cs_L_83_9 hC.1 (c_sum hC hS.1.2.2.1.z) (ab_fit_mk (Nat.le_of_ble_eq_true rfl) (Nat.le_of_ble_eq_true rfl) (by omega) (by omega)) (Nat.le_of_ble_eq_true rfl) (fun x695 M695 h695 => ?_)
  obtain ⟨e695, em695⟩ := h695
  replace em695 := em695.symm
  subst em695
  refine aw_aload_n dL_law_698 rfl ?_
  refine aw_aload_n dL_law_699 rfl ?_
  refine aw_iload_n dL_law_700 rfl ?_
  refine aw_iconst (v := 1) dL_law_701 (by decide) ?_
  refine aw_iadd dL_law_702 ?_
  refine aw_sld dL_law_703 (by assumption) ?_
  refine aw_V1l (kc' := 3 * r) (ks' := 33 * r) dL_law_704 cs_L_87_10 hR.1 (r_sum hR hS.1.2.1.1) (ab_fit_mk (Nat.le_of_ble_eq_true rfl) (Nat.le_of_ble_eq_true rfl) (by omega) (by omega)) (Nat.le_of_ble_eq_true rfl) (fun x704 M704 h704 => ?_)
  obtain ⟨e704, em704⟩ := h704
  replace em704 := em704.symm
  subst em704
  have hJ9 : JS g M (α 0 0) am ((t : Int) + 1) := ⟨α, ρ, nf, nj, nm, σ, κ, rfl, hC, hR, hS.up⟩
  refine aw_lcmp dL_law_707 ?_
  refine aw_if_eq (tgt := 901) dL_law_708 (by decide) (fun h708 => ?_) (fun h708 => absurd (by rw [e695, e704, s_sum hS]; simp [lg_cmp]) h708)
  exact kk _ hJ9
set_option maxRecDepth 100000 in
set_option maxHeartbeats 4000000 in
theorem lc_19 {l : Launch} {nm : String} {g : ab_G} {b N ax am t r : Nat} {xs : Nat → Int32} {M : ab_M} (hN : N ≤ 3584) (ht : 7 * t + 7 ≤ N) (hJ : JS g M ax am t) (kk : ∀ M', JS g M' ax am ((t : Int) + 1) → AW l g (XL g b N xs) ZL (YL nm) 13 482 (3 * r) (33 * r) 901 [some (.ref b), some (.ref ax), some (.ref am), some (.int (nI (7 * t)))] [] M') : AW l g (XL g b N xs) ZL (YL nm) 13 482 (3 * r + 3) (33 * r + 33) 812 [some (.ref b), some (.ref ax), some (.ref am), some (.int (nI (7 * t)))] [] M := by
  obtain ⟨α, ρ, nf, nj, nm, σ, κ, rfl, hC, hR, hS⟩ := hJ
  have hct : (t : Int) ≤ 1000 := by omega
  have i1 : vp_in (nI (7 * t) + 1) N := idx7 ht hN (k := 1) (by omega)
  have i2 : vp_in (nI (7 * t) + 2) N := idx7 ht hN (k := 2) (by omega)
  have i3 : vp_in (nI (7 * t) + 3) N := idx7 ht hN (k := 3) (by omega)
  have i4 : vp_in (nI (7 * t) + 4) N := idx7 ht hN (k := 4) (by omega)
  have i5 : vp_in (nI (7 * t) + 5) N := idx7 ht hN (k := 5) (by omega)
  have i6 : vp_in (nI (7 * t) + 6) N := idx7 ht hN (k := 6) (by omega)
  have hb := hS.1.2.2.1.1
  refine aw_aload_n dL_law_812 rfl ?_
  refine aw_aload_n dL_law_813 rfl ?_
  refine aw_iload_n dL_law_814 rfl ?_
  refine aw_iconst (v := 1) dL_law_815 (by decide) ?_
  refine aw_iadd dL_law_816 ?_
  refine aw_sld dL_law_817 (by assumption) ?_
  refine aw_aload_n dL_law_818 rfl ?_
  refine aw_iload_n dL_law_819 rfl ?_
  refine aw_iconst (v := 2) dL_law_820 (by decide) ?_
  refine aw_iadd dL_law_821 ?_
  refine aw_sld dL_law_822 (by assumption) ?_
  refine aw_aload_n dL_law_823 rfl ?_
  refine aw_iload_n dL_law_824 rfl ?_
  refine aw_iconst (v := 3) dL_law_825 (by decide) ?_
  refine aw_iadd dL_law_826 ?_
  refine aw_sld dL_law_827 (by assumption) ?_
  refine aw_V3i (kc' := 3 * r) (ks' := 33 * r) dL_law_828 cs_L_100_9 hC.1 (c_give hC hS.1.2.2.1.z) (ab_fit_mk (Nat.le_of_ble_eq_true rfl) (Nat.le_of_ble_eq_true rfl) (by omega) (by omega)) (Nat.le_of_ble_eq_true rfl) (fun x828 M828 h828 => ?_)
  obtain ⟨hd828, hKH⟩ := h828
  replace hR := hR.kh hKH
  refine aw_aload_n dL_law_831 rfl ?_
  refine aw_aload_n dL_law_832 rfl ?_
  refine aw_iload_n dL_law_833 rfl ?_
  refine aw_iconst (v := 1) dL_law_834 (by decide) ?_
  refine aw_iadd dL_law_835 ?_
  refine aw_sld dL_law_836 (by assumption) ?_
  refine aw_aload_n dL_law_837 rfl ?_
  refine aw_iload_n dL_law_838 rfl ?_
  refine aw_iconst (v := 2) dL_law_839 (by decide) ?_
  refine aw_iadd dL_law_840 ?_
  refine aw_sld dL_law_841 (by assumption) ?_
  refine aw_aload_n dL_law_842 rfl ?_
  refine aw_iload_n dL_law_843 rfl ?_
  refine aw_iconst (v := 3) dL_law_844 (by decide) ?_
  refine aw_iadd dL_law_845 ?_
  refine aw_sld dL_law_846 (by assumption) ?_
  refine aw_V3i (kc' := 3 * r) (ks' := 33 * r) dL_law_847 cs_L_103_10 hR.1 (r_give hR hS.1.2.1 hS.1.ways) (ab_fit_mk (Nat.le_of_ble_eq_true rfl) (Nat.le_of_ble_eq_true rfl) (by omega) (by omega)) (Nat.le_of_ble_eq_true rfl) (fun x847 M847 h847 => ?_)
  obtain ⟨hr847, hKR⟩ := h847
  obtain ⟨e9, hJ9⟩ := u_give hS hd828 hr847 hKR
  refine aw_icmp_eq (tgt := 901) dL_law_850 (by decide) (fun h850 => ?_) (fun h850 => absurd (e9) h850)
  exact kk _ hJ9
set_option maxRecDepth 100000 in
set_option maxHeartbeats 4000000 in
theorem lc_7 {l : Launch} {nm : String} {g : ab_G} {b N ax am t r : Nat} {xs : Nat → Int32} {M : ab_M} (hN : N ≤ 3584) (ht : 7 * t + 7 ≤ N) (hJ : JS g M ax am t) (kk : ∀ M', JS g M' ax am ((t : Int) + 1) → AW l g (XL g b N xs) ZL (YL nm) 13 482 (3 * r) (33 * r) 901 [some (.ref b), some (.ref ax), some (.ref am), some (.int (nI (7 * t)))] [] M') : AW l g (XL g b N xs) ZL (YL nm) 13 482 (3 * r + 3) (33 * r + 33) 429 [some (.ref b), some (.ref ax), some (.ref am), some (.int (nI (7 * t)))] [] M := by
  obtain ⟨α, ρ, nf, nj, nm, σ, κ, rfl, hC, hR, hS⟩ := hJ
  have hct : (t : Int) ≤ 1000 := by omega
  have i1 : vp_in (nI (7 * t) + 1) N := idx7 ht hN (k := 1) (by omega)
  have i2 : vp_in (nI (7 * t) + 2) N := idx7 ht hN (k := 2) (by omega)
  have i3 : vp_in (nI (7 * t) + 3) N := idx7 ht hN (k := 3) (by omega)
  have i4 : vp_in (nI (7 * t) + 4) N := idx7 ht hN (k := 4) (by omega)
  have i5 : vp_in (nI (7 * t) + 5) N := idx7 ht hN (k := 5) (by omega)
  have i6 : vp_in (nI (7 * t) + 6) N := idx7 ht hN (k := 6) (by omega)
  have hb := hS.1.2.2.1.1
  by_cases h0 : xs (nI (7 * t) + 2).toNatClampNeg = 0
  · refine aw_aload_n dL_law_429 rfl ?_
    refine aw_aload_n dL_law_430 rfl ?_
    refine aw_iload_n dL_law_431 rfl ?_
    refine aw_iconst (v := 1) dL_law_432 (by decide) ?_
    refine aw_iadd dL_law_433 ?_
    refine aw_sld dL_law_434 (by assumption) ?_
    refine aw_aload_n dL_law_435 rfl ?_
    refine aw_iload_n dL_law_436 rfl ?_
    refine aw_iconst (v := 2) dL_law_437 (by decide) ?_
    refine aw_iadd dL_law_438 ?_
    refine aw_sld dL_law_439 (by assumption) ?_
    refine aw_if_eq (tgt := 447) dL_law_440 (by decide) (fun h440 => ?_) (fun h440 => absurd h0 h440)
    refine aw_iconst (v := 0) dL_law_447 (by decide) ?_
    refine aw_V2i (kc' := 3 * r) (ks' := 33 * r) dL_law_448 cs_L_46_9 hC.1 (c_open hC hS.1.2.2.1.z rfl rfl rfl) (ab_fit_mk (Nat.le_of_ble_eq_true rfl) (Nat.le_of_ble_eq_true rfl) (by omega) (by omega)) (Nat.le_of_ble_eq_true rfl) (fun x448 M448 h448 => ?_)
    obtain ⟨e448, hC, hKH⟩ := h448
    replace hR := hR.kh hKH
    refine aw_aload_n dL_law_451 rfl ?_
    refine aw_aload_n dL_law_452 rfl ?_
    refine aw_iload_n dL_law_453 rfl ?_
    refine aw_iconst (v := 1) dL_law_454 (by decide) ?_
    refine aw_iadd dL_law_455 ?_
    refine aw_sld dL_law_456 (by assumption) ?_
    refine aw_aload_n dL_law_457 rfl ?_
    refine aw_iload_n dL_law_458 rfl ?_
    refine aw_iconst (v := 2) dL_law_459 (by decide) ?_
    refine aw_iadd dL_law_460 ?_
    refine aw_sld dL_law_461 (by assumption) ?_
    refine aw_if_eq (tgt := 469) dL_law_462 (by decide) (fun h462 => ?_) (fun h462 => absurd h0 h462)
    refine aw_iconst (v := 0) dL_law_469 (by decide) ?_
    refine aw_V2i (kc' := 3 * r) (ks' := 33 * r) dL_law_470 cs_L_50_10 hR.1 (r_open hR hS.1.2.1.1) (ab_fit_mk (Nat.le_of_ble_eq_true rfl) (Nat.le_of_ble_eq_true rfl) (by omega) (by omega)) (Nat.le_of_ble_eq_true rfl) (fun x470 M470 h470 => ?_)
    obtain ⟨e470, hR, hKR⟩ := h470
    replace hC := hC.kr hKR
    have hJ9 : JS g M470 (α 0 0) am ((t : Int) + 1) := ⟨α, ρ, nf, nj, nm, _, _, rfl, hC, hR, (s_open hS).2⟩
    refine aw_icmp_eq (tgt := 901) dL_law_473 (by decide) (fun h473 => ?_) (fun h473 => absurd (by rw [e448, e470]; exact (s_open hS).1) h473)
    exact kk _ hJ9
  · refine aw_aload_n dL_law_429 rfl ?_
    refine aw_aload_n dL_law_430 rfl ?_
    refine aw_iload_n dL_law_431 rfl ?_
    refine aw_iconst (v := 1) dL_law_432 (by decide) ?_
    refine aw_iadd dL_law_433 ?_
    refine aw_sld dL_law_434 (by assumption) ?_
    refine aw_aload_n dL_law_435 rfl ?_
    refine aw_iload_n dL_law_436 rfl ?_
    refine aw_iconst (v := 2) dL_law_437 (by decide) ?_
    refine aw_iadd dL_law_438 ?_
    refine aw_sld dL_law_439 (by assumption) ?_
    refine aw_if_eq (tgt := 447) dL_law_440 (by decide) (fun h440 => absurd h440 h0) (fun h440 => ?_)
    refine aw_iconst (v := 1) dL_law_443 (by decide) ?_
    refine aw_goto (tgt := 448) dL_law_444 (by decide) ?_
    refine aw_V2i (kc' := 3 * r) (ks' := 33 * r) dL_law_448 cs_L_46_9 hC.1 (c_open hC hS.1.2.2.1.z rfl rfl rfl) (ab_fit_mk (Nat.le_of_ble_eq_true rfl) (Nat.le_of_ble_eq_true rfl) (by omega) (by omega)) (Nat.le_of_ble_eq_true rfl) (fun x448 M448 h448 => ?_)
    obtain ⟨e448, hC, hKH⟩ := h448
    replace hR := hR.kh hKH
    refine aw_aload_n dL_law_451 rfl ?_
    refine aw_aload_n dL_law_452 rfl ?_
    refine aw_iload_n dL_law_453 rfl ?_
    refine aw_iconst (v := 1) dL_law_454 (by decide) ?_
    refine aw_iadd dL_law_455 ?_
    refine aw_sld dL_law_456 (by assumption) ?_
    refine aw_aload_n dL_law_457 rfl ?_
    refine aw_iload_n dL_law_458 rfl ?_
    refine aw_iconst (v := 2) dL_law_459 (by decide) ?_
    refine aw_iadd dL_law_460 ?_
    refine aw_sld dL_law_461 (by assumption) ?_
    refine aw_if_eq (tgt := 469) dL_law_462 (by decide) (fun h462 => absurd h462 h0) (fun h462 => ?_)
    refine aw_iconst (v := 1) dL_law_465 (by decide) ?_
    refine aw_goto (tgt := 470) dL_law_466 (by decide) ?_
    refine aw_V2i (kc' := 3 * r) (ks' := 33 * r) dL_law_470 cs_L_50_10 hR.1 (r_open hR hS.1.2.1.1) (ab_fit_mk (Nat.le_of_ble_eq_true rfl) (Nat.le_of_ble_eq_true rfl) (by omega) (by omega)) (Nat.le_of_ble_eq_true rfl) (fun x470 M470 h470 => ?_)
    obtain ⟨e470, hR, hKR⟩ := h470
    replace hC := hC.kr hKR
    have hJ9 : JS g M470 (α 0 0) am ((t : Int) + 1) := ⟨α, ρ, nf, nj, nm, _, _, rfl, hC, hR, (s_open hS).2⟩
    refine aw_icmp_eq (tgt := 901) dL_law_473 (by decide) (fun h473 => ?_) (fun h473 => absurd (by rw [e448, e470]; exact (s_open hS).1) h473)
    exact kk _ hJ9
