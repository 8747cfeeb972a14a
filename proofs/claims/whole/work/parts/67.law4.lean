/-! ===== the law: its loop ===== -/
theorem aw_less {l : Launch} {g : ab_G} {X : State → Array Value → Prop} {Z : List Frame → Array Value → State → Room → State → Prop} {y : ab_Y} {F Lw kc ks kc2 ks2 pc : Nat} {L : List (Option Value)} {st : List Value} {M : ab_M} (h1 : kc ≤ kc2) (h2 : ks ≤ ks2) (k : AW l g X Z y F Lw kc ks pc L st M) : AW l g X Z y F Lw kc2 ks2 pc L st M := by
  intro p e R s m args below meth c H locs cells slots ls C c1 c2 hS hR hl
  exact k p e R s m args below meth c H locs cells slots ls C (by omega) (by omega) hS hR hl
set_option maxRecDepth 100000 in
set_option maxHeartbeats 4000000 in
theorem law_sw {l : Launch} {nm : String} {g : ab_G} {b N ax am t r : Nat} {xs : Nat → Int32} {M : ab_M} {v : Int32} (hN : N ≤ 3584) (ht : 7 * t + 7 ≤ N) (hJ : JS g M ax am t) (kk : ∀ M', JS g M' ax am ((t : Int) + 1) → AW l g (XL g b N xs) ZL (YL nm) 13 482 (3 * r) (33 * r) 901 [some (.ref b), some (.ref ax), some (.ref am), some (.int (nI (7 * t)))] [] M') (kk2 : ∀ M', JS g M' ax am ((t : Int) + 1) → AW l g (XL g b N xs) ZL (YL nm) 13 482 (3 * r + 3) (33 * r + 33) 901 [some (.ref b), some (.ref ax), some (.ref am), some (.int (nI (7 * t)))] [] M') : AW l g (XL g b N xs) ZL (YL nm) 13 482 (3 * r + 3) (33 * r + 33) 33 [some (.ref b), some (.ref ax), some (.ref am), some (.int (nI (7 * t)))] [.int v] M := by
  have hJup : JS g M ax am ((t : Int) + 1) := by
    obtain ⟨α, ρ, nf, nj, nm, σ, κ, e, hC, hR, hS⟩ := hJ
    exact ⟨α, ρ, nf, nj, nm, σ, κ, e, hC, hR, hS.up⟩
  by_cases e0 : v = 0
  · exact aw_swAt 0 (off := 103) (tgt := 136) e0 dL_law_33 (by decide) (by decide) (by decide) (by decide) (lc_0 hN ht hJ kk)
  by_cases e1 : v = 1
  · exact aw_swAt 1 (off := 126) (tgt := 159) e1 dL_law_33 (by decide) (by decide) (by decide) (by decide) (lc_1 hN ht hJ kk)
  by_cases e2 : v = 2
  · exact aw_swAt 2 (off := 201) (tgt := 234) e2 dL_law_33 (by decide) (by decide) (by decide) (by decide) (lc_2 hN ht hJ kk)
  by_cases e3 : v = 3
  · exact aw_swAt 3 (off := 234) (tgt := 267) e3 dL_law_33 (by decide) (by decide) (by decide) (by decide) (lc_3 hN ht hJ kk)
  by_cases e4 : v = 4
  · exact aw_swAt 4 (off := 287) (tgt := 320) e4 dL_law_33 (by decide) (by decide) (by decide) (by decide) (lc_4 hN ht hJ kk)
  by_cases e5 : v = 5
  · exact aw_swAt 5 (off := 320) (tgt := 353) e5 dL_law_33 (by decide) (by decide) (by decide) (by decide) (lc_5 hN ht hJ kk)
  by_cases e6 : v = 6
  · exact aw_swAt 6 (off := 353) (tgt := 386) e6 dL_law_33 (by decide) (by decide) (by decide) (by decide) (lc_6 hN ht hJ kk)
  by_cases e7 : v = 7
  · exact aw_swAt 7 (off := 396) (tgt := 429) e7 dL_law_33 (by decide) (by decide) (by decide) (by decide) (lc_7 hN ht hJ kk)
  by_cases e8 : v = 8
  · exact aw_swAt 8 (off := 445) (tgt := 478) e8 dL_law_33 (by decide) (by decide) (by decide) (by decide) (lc_8 hN ht hJ kk)
  by_cases e9 : v = 9
  · exact aw_swAt 9 (off := 468) (tgt := 501) e9 dL_law_33 (by decide) (by decide) (by decide) (by decide) (lc_9 hN ht hJ kk)
  by_cases e10 : v = 10
  · exact aw_swAt 10 (off := 531) (tgt := 564) e10 dL_law_33 (by decide) (by decide) (by decide) (by decide) (lc_10 hN ht hJ kk)
  by_cases e11 : v = 11
  · exact aw_swAt 11 (off := 544) (tgt := 577) e11 dL_law_33 (by decide) (by decide) (by decide) (by decide) (lc_11 hN ht hJ kk)
  by_cases e12 : v = 12
  · exact aw_swAt 12 (off := 567) (tgt := 600) e12 dL_law_33 (by decide) (by decide) (by decide) (by decide) (lc_12 hN ht hJ kk)
  by_cases e13 : v = 13
  · exact aw_swAt 13 (off := 590) (tgt := 623) e13 dL_law_33 (by decide) (by decide) (by decide) (by decide) (lc_13 hN ht hJ kk)
  by_cases e14 : v = 14
  · exact aw_swAt 14 (off := 623) (tgt := 656) e14 dL_law_33 (by decide) (by decide) (by decide) (by decide) (lc_14 hN ht hJ kk)
  by_cases e15 : v = 15
  · exact aw_swAt 15 (off := 656) (tgt := 689) e15 dL_law_33 (by decide) (by decide) (by decide) (by decide) (lc_15 hN ht hJ kk)
  by_cases e16 : v = 16
  · exact aw_swAt 16 (off := 680) (tgt := 713) e16 dL_law_33 (by decide) (by decide) (by decide) (by decide) (lc_16 hN ht hJ kk)
  by_cases e17 : v = 17
  · exact aw_swAt 17 (off := 713) (tgt := 746) e17 dL_law_33 (by decide) (by decide) (by decide) (by decide) (lc_17 hN ht hJ kk)
  by_cases e18 : v = 18
  · exact aw_swAt 18 (off := 746) (tgt := 779) e18 dL_law_33 (by decide) (by decide) (by decide) (by decide) (lc_18 hN ht hJ kk)
  by_cases e19 : v = 19
  · exact aw_swAt 19 (off := 779) (tgt := 812) e19 dL_law_33 (by decide) (by decide) (by decide) (by decide) (lc_19 hN ht hJ kk)
  by_cases e20 : v = 20
  · exact aw_swAt 20 (off := 822) (tgt := 855) e20 dL_law_33 (by decide) (by decide) (by decide) (by decide) (lc_20 hN ht hJ kk)
  by_cases e21 : v = 21
  · exact aw_swAt 21 (off := 845) (tgt := 878) e21 dL_law_33 (by decide) (by decide) (by decide) (by decide) (lc_21 hN ht hJ kk)
  refine aw_swOut (tgt := 901) dL_law_33 (by have := ne_toInt e0; have := ne_toInt e1; have := ne_toInt e2; have := ne_toInt e3; have := ne_toInt e4; have := ne_toInt e5; have := ne_toInt e6; have := ne_toInt e7; have := ne_toInt e8; have := ne_toInt e9; have := ne_toInt e10; have := ne_toInt e11; have := ne_toInt e12; have := ne_toInt e13; have := ne_toInt e14; have := ne_toInt e15; have := ne_toInt e16; have := ne_toInt e17; have := ne_toInt e18; have := ne_toInt e19; have := ne_toInt e20; have := ne_toInt e21; simp only [show (0 : Int32).toInt = 0 by decide, show (1 : Int32).toInt = 1 by decide, show (2 : Int32).toInt = 2 by decide, show (3 : Int32).toInt = 3 by decide, show (4 : Int32).toInt = 4 by decide, show (5 : Int32).toInt = 5 by decide, show (6 : Int32).toInt = 6 by decide, show (7 : Int32).toInt = 7 by decide, show (8 : Int32).toInt = 8 by decide, show (9 : Int32).toInt = 9 by decide, show (10 : Int32).toInt = 10 by decide, show (11 : Int32).toInt = 11 by decide, show (12 : Int32).toInt = 12 by decide, show (13 : Int32).toInt = 13 by decide, show (14 : Int32).toInt = 14 by decide, show (15 : Int32).toInt = 15 by decide, show (16 : Int32).toInt = 16 by decide, show (17 : Int32).toInt = 17 by decide, show (18 : Int32).toInt = 18 by decide, show (19 : Int32).toInt = 19 by decide, show (20 : Int32).toInt = 20 by decide, show (21 : Int32).toInt = 21 by decide] at *; omega) (by decide) ?_
  exact kk2 M hJup
set_option maxRecDepth 100000 in
set_option maxHeartbeats 4000000 in
theorem law_loop {l : Launch} {nm : String} {g : ab_G} {b N ax am : Nat} {xs : Nat → Int32} (hN : N ≤ 3584) : ∀ (r t kc ks : Nat) (M : ab_M), t + r = 512 → 3 * r ≤ kc → 33 * r ≤ ks → JS g M ax am t → AW l g (XL g b N xs) ZL (YL nm) 13 482 (kc) (ks) 18 [some (.ref b), some (.ref ax), some (.ref am), some (.int (nI (7 * t)))] [] M := by
  intro r
  induction r with
  | zero =>
    intro t kc ks M htr h1 h2 hJ
    have hcmp : (Int32.ofNat N - 7 < nI (7 * t)) := by
      rw [Int32.lt_iff_toInt_lt, show Int32.ofNat N - 7 = nI N - nI 7 from rfl, pk_sub_toInt (by omega) (by omega), nI_toInt (by omega)]; omega
    refine aw_iload_n dL_law_18 rfl ?_
    refine aw_aload_n dL_law_19 rfl ?_
    refine aw_slen dL_law_20 ?_
    refine aw_bipush (v := 7) dL_law_21 (by decide) ?_
    refine aw_isub dL_law_23 ?_
    refine aw_icmp_gt (tgt := 907) dL_law_24 (by decide) (fun h24 => ?_) (fun h24 => absurd hcmp h24)
    refine aw_iconst (v := 1) dL_law_907 (by decide) ?_
    exact aw_law1 dL_law_908
  | succ r ih =>
    intro t kc ks M htr h1 h2 hJ
    by_cases ht : 7 * t + 7 ≤ N
    · have hcmp : ¬ (Int32.ofNat N - 7 < nI (7 * t)) := by
        rw [Int32.lt_iff_toInt_lt, show Int32.ofNat N - 7 = nI N - nI 7 from rfl, pk_sub_toInt (by omega) (by omega), nI_toInt (by omega)]; omega
      have i0 : vp_in (nI (7 * t)) N := vp_in_nI (by omega) (by omega)
      obtain ⟨c2, rfl⟩ : ∃ c2, kc = 3 * r + 3 + c2 := ⟨kc - (3 * r + 3), by omega⟩
      obtain ⟨s2, rfl⟩ : ∃ s2, ks = 33 * r + 33 + s2 := ⟨ks - (33 * r + 33), by omega⟩
      have next : ∀ kc ks, 3 * r ≤ kc → 33 * r ≤ ks → ∀ M', JS g M' ax am ((t : Int) + 1) → AW l g (XL g b N xs) ZL (YL nm) 13 482 (kc) (ks) 901 [some (.ref b), some (.ref ax), some (.ref am), some (.int (nI (7 * t)))] [] M' := by
        intro kc ks h1 h2 M' h
        refine aw_iinc (v := nI (7 * (t + 1))) dL_law_901 rfl (by rw [show Int32.ofInt 7 = nI 7 from rfl, nI_add]; rfl) rfl (Nat.le_of_ble_eq_true rfl) ?_
        refine aw_goto (tgt := 18) dL_law_904 (by decide) ?_
        exact ih (t + 1) kc ks M' (by omega) h1 h2 (by rw [show ((t + 1 : Nat) : Int) = (t : Int) + 1 from rfl]; exact h)
      refine aw_iload_n dL_law_18 rfl ?_
      refine aw_aload_n dL_law_19 rfl ?_
      refine aw_slen dL_law_20 ?_
      refine aw_bipush (v := 7) dL_law_21 (by decide) ?_
      refine aw_isub dL_law_23 ?_
      refine aw_icmp_gt (tgt := 907) dL_law_24 (by decide) (fun h24 => absurd h24 hcmp) (fun h24 => ?_)
      refine aw_aload_n dL_law_27 rfl ?_
      refine aw_iload_n dL_law_28 rfl ?_
      refine aw_sld dL_law_29 (by assumption) ?_
      refine aw_bipush (v := 31) dL_law_30 (by decide) ?_
      refine aw_iand dL_law_32 ?_
      refine aw_less (kc := 3 * r + 3) (ks := 33 * r + 33) (by omega) (by omega) ?_
      exact law_sw hN ht hJ (next _ _ (by omega) (by omega)) (next _ _ (by omega) (by omega))
    · have hcmp : (Int32.ofNat N - 7 < nI (7 * t)) := by
        rw [Int32.lt_iff_toInt_lt, show Int32.ofNat N - 7 = nI N - nI 7 from rfl, pk_sub_toInt (by omega) (by omega), nI_toInt (by omega)]; omega
      refine aw_iload_n dL_law_18 rfl ?_
      refine aw_aload_n dL_law_19 rfl ?_
      refine aw_slen dL_law_20 ?_
      refine aw_bipush (v := 7) dL_law_21 (by decide) ?_
      refine aw_isub dL_law_23 ?_
      refine aw_icmp_gt (tgt := 907) dL_law_24 (by decide) (fun h24 => ?_) (fun h24 => absurd hcmp h24)
      refine aw_iconst (v := 1) dL_law_907 (by decide) ?_
      exact aw_law1 dL_law_908
