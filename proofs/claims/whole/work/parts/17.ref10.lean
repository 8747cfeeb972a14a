/-! ===== the reference's methods, 10: fares, type ===== -/
theorem q_tail_le {T : Nat → Int32} {n p : Nat} {lo hi : Int32} {R : Nat → Int32} (h : p ≤ n) : (q_tail T n lo hi p R).2.1 ≤ n := by
  have h1 := sk_le (T := T) h
  unfold q_tail
  split
  · next h2 =>
    have h3 := q_cur_lt h2 (by decide)
    have h4 := q_num_le (T := T) (lo := 0) (hi := 99) (show sk T n p + 1 ≤ n by omega)
    split <;> exact h4
  · exact h1.2
theorem q_clause_le {T : Nat → Int32} {n p : Nat} {R : Nat → Int32} (h : p ≤ n) : (q_clause T n p R).2.1 ≤ n := by
  have h1 := q_num_le (T := T) (lo := 0) (hi := 9) h
  unfold q_clause
  split
  · unfold q_clause2
    have h2 := sk_le (T := T) h1
    split
    · next h3 =>
      have h4 := q_cur_lt h3 (by decide)
      have h5 := q_num_le (T := T) (lo := (q_num T n 0 9 p).1) (hi := 9) (show sk T n (q_num T n 0 9 p).2 + 1 ≤ n by omega)
      split
      · exact q_tail_le h5
      · exact h5
    · exact q_tail_le h2.2
  · exact h1
def q_rf (T : Nat → Int32) (n : Nat) : Nat → Nat → Nat → (Nat → Int32) → Int32 × Nat × (Nat → Int32)
  | 0, _, p, R => (-1, p, R)
  | k + 1, c, p, R => if (q_clause T n p R).1 = true then (if q_cur T n (sk T n (q_clause T n p R).2.1) < 0 then (nI (c + 1), sk T n (q_clause T n p R).2.1, (q_clause T n p R).2.2) else if ¬ q_cur T n (sk T n (q_clause T n p R).2.1) = 59 ∨ c + 1 = 5 then (-1, sk T n (q_clause T n p R).2.1, (q_clause T n p R).2.2) else q_rf T n k (c + 1) (sk T n (q_clause T n p R).2.1 + 1) (q_clause T n p R).2.2) else (-1, (q_clause T n p R).2.1, (q_clause T n p R).2.2)
theorem ra_id {σ : rS} {k : Nat} {f : Nat → Int32} (h : σ.2.1 k = f) : ra σ k f = σ := by
  unfold ra
  rw [← h]
  congr 2
  funext j
  by_cases h2 : j = k <;> simp [h2]
def q_R0 (σ : rS) : Nat → Int32 := lp (k_put 0) 0 10 (σ.2.1 34)
def q_rfs (σ : rS) (n : Nat) : Int32 × Nat × (Nat → Int32) := q_rf (σ.2.1 30) n 5 0 0 (q_R0 σ)
set_option maxRecDepth 100000 in
set_option maxHeartbeats 4000000 in
theorem rt_rf {l : Launch} {g : ab_G} {Mb : ab_M} {a0 : Nat} {ρ : Nat → Nat} {σ : rS} {n : Nat} (hT : tT σ n) : ∀ (k c p : Nat) (R : Nat → Int32) (M1 : ab_M) (z3 : Option Value), c + k = 5 → 0 < k → p ≤ n → RR g M1 a0 ρ (tσ σ p R) → KR Mb M1 → q_rf (σ.2.1 30) n k c p R = q_rfs σ n → AW l g ab_X0 (ab_Z g (ab_Qi (fun x M' => x = (q_rfs σ n).1 ∧ RR g M' a0 ρ (tσ σ (q_rfs σ n).2.1 (q_rfs σ n).2.2) ∧ KR Mb M'))) Y_X9_readFares 3 71 0 0 30 [some (.ref a0), some (.int (nI c)), some (.int 1), z3] [] M1 := by
  have hn50 := hT.2
  intro k
  induction k with
  | zero =>
    intro c p R M1 z3 hc h0
    omega
  | succ k ih =>
    intro c p R M1 z3 hc h0 hp hR hK hq
    have hpc := q_clause_le (T := σ.2.1 30) (R := R) hp
    have hsk := sk_le (T := σ.2.1 30) hpc
    rw [q_rf] at hq
    refine aw_iload_n dX9_readFares_30 rfl ?_
    refine aw_if_eq (tgt := 99) dX9_readFares_31 (by decide) (fun h31 => absurd h31 (by decide)) (fun h31 => ?_)
    refine aw_aload_n dX9_readFares_34 rfl ?_
    refine aw_V0i (kc' := 0) (ks' := 0) dX9_readFares_35 cs_X9_165_10 hR.1 (r_readClause hR hT hp) rfl (Nat.le_of_ble_eq_true rfl) (fun x35 M35 h35 => ?_)
    obtain ⟨rfl, hR, hK35⟩ := h35
    replace hK := hK.tr hK35
    refine aw_if_ne (tgt := 43) dX9_readFares_38 (by decide) (fun h38 => ?_) (fun h38 => ?_)
    · replace h38 := b2i_n.mp h38
      rw [if_pos h38] at hq
      refine aw_iinc dX9_readFares_43 rfl (ii_1 c) rfl (by decide) ?_
      refine aw_aload_n dX9_readFares_46 rfl ?_
      refine aw_V0i (kc' := 0) (ks' := 0) dX9_readFares_47 cs_X9_157_10 hR.1 (r_next hR hT (hpc)) rfl (Nat.le_of_ble_eq_true rfl) (fun x47 M47 h47 => ?_)
      obtain ⟨rfl, hR, hK47⟩ := h47
      replace hK := hK.tr hK47
      refine aw_istore_n dX9_readFares_50 rfl (by decide) ?_
      refine aw_iload_n dX9_readFares_51 rfl ?_
      refine aw_if_lt (tgt := 68) dX9_readFares_52 (by decide) (fun h52 => ?_) (fun h52 => ?_)
      · rw [if_pos h52] at hq
        refine aw_iload_n dX9_readFares_68 rfl ?_
        refine aw_if_lt (tgt := 76) dX9_readFares_69 (by decide) (fun h69 => ?_) (fun h69 => absurd h52 h69)
        refine aw_iconst (v := 0) dX9_readFares_76 (by decide) ?_
        refine aw_istore_n dX9_readFares_77 rfl (by decide) ?_
        refine aw_aload_n dX9_readFares_78 rfl ?_
        refine aw_dup dX9_readFares_79 rfl ?_
        refine aw_get dX9_readFares_80 fg_X9_154_10 hR.1 rfl ?_
        refine aw_iload_n dX9_readFares_83 rfl ?_
        refine aw_if_eq (tgt := 91) dX9_readFares_84 (by decide) (fun h84 => ?_) (fun h84 => absurd rfl h84)
        refine aw_iconst (v := 0) dX9_readFares_91 (by decide) ?_
        refine aw_iadd dX9_readFares_92 ?_
        refine rw_put_32 dX9_readFares_93 fl_X9_154_10 hR hK (fun M hR hK => ?_)
        refine aw_goto (tgt := 30) dX9_readFares_96 (by decide) ?_
        refine aw_iload_n dX9_readFares_30 rfl ?_
        refine aw_if_eq (tgt := 99) dX9_readFares_31 (by decide) (fun h31 => ?_) (fun h31 => absurd rfl h31)
        refine aw_iload_n dX9_readFares_99 rfl ?_
        exact aw_iret dX9_readFares_100 rfl (by rw [← hq]; refine ⟨rfl, ?_, hK⟩; have := hR; rw [show (tσ σ (sk (σ.2.1 30) n (q_clause (σ.2.1 30) n p R).2.1) (q_clause (σ.2.1 30) n p R).2.2).1 32 + 0 = nI (sk (σ.2.1 30) n (q_clause (σ.2.1 30) n p R).2.1) from Int32.add_zero _, tσ_at] at this; exact this)
      · rw [if_neg h52] at hq
        refine aw_iload_n dX9_readFares_55 rfl ?_
        refine aw_bipush (v := 59) dX9_readFares_56 (by decide) ?_
        refine aw_icmp_ne (tgt := 66) dX9_readFares_58 (by decide) (fun h58 => ?_) (fun h58 => ?_)
        · rw [if_pos (Or.inl h58)] at hq
          refine aw_iconst (v := -1) dX9_readFares_66 (by decide) ?_
          exact aw_iret dX9_readFares_67 rfl (by rw [← hq]; exact ⟨rfl, hR, hK⟩)
        · refine aw_iload_n dX9_readFares_61 rfl ?_
          refine aw_iconst (v := 5) dX9_readFares_62 (by decide) ?_
          refine aw_icmp_ne (tgt := 68) dX9_readFares_63 (by decide) (fun h63 => ?_) (fun h63 => ?_)
          · have h63 : ¬ c + 1 = 5 := fun e => h63 (by rw [e]; rfl)
            rw [if_neg (by rintro (h | h); exact h h58; exact h63 h)] at hq
            refine aw_iload_n dX9_readFares_68 rfl ?_
            refine aw_if_lt (tgt := 76) dX9_readFares_69 (by decide) (fun h69 => absurd h69 h52) (fun h69 => ?_)
            refine aw_iconst (v := 1) dX9_readFares_72 (by decide) ?_
            refine aw_goto (tgt := 77) dX9_readFares_73 (by decide) ?_
            refine aw_istore_n dX9_readFares_77 rfl (by decide) ?_
            refine aw_aload_n dX9_readFares_78 rfl ?_
            refine aw_dup dX9_readFares_79 rfl ?_
            refine aw_get dX9_readFares_80 fg_X9_154_10 hR.1 rfl ?_
            refine aw_iload_n dX9_readFares_83 rfl ?_
            refine aw_if_eq (tgt := 91) dX9_readFares_84 (by decide) (fun h84 => absurd h84 (by decide)) (fun h84 => ?_)
            refine aw_iconst (v := 1) dX9_readFares_87 (by decide) ?_
            refine aw_goto (tgt := 92) dX9_readFares_88 (by decide) ?_
            refine aw_iadd dX9_readFares_92 ?_
            refine rw_put_32 dX9_readFares_93 fl_X9_154_10 hR hK (fun M hR hK => ?_)
            refine aw_goto (tgt := 30) dX9_readFares_96 (by decide) ?_
            exact ih (c + 1) _ _ _ _ (by omega) (by omega) (by have := q_cur_lt h58 (by decide); omega) (by have := hR; rw [show (tσ σ (sk (σ.2.1 30) n (q_clause (σ.2.1 30) n p R).2.1) (q_clause (σ.2.1 30) n p R).2.2).1 32 + 1 = nI (sk (σ.2.1 30) n (q_clause (σ.2.1 30) n p R).2.1 + 1) from nI_1 _, tσ_at] at this; exact this) hK hq
          · have h63 : c + 1 = 5 := (nI_eq_iff (a := c + 1) (b := 5) (by omega) (by decide)).mp h63
            rw [if_pos (Or.inr h63)] at hq
            refine aw_iconst (v := -1) dX9_readFares_66 (by decide) ?_
            exact aw_iret dX9_readFares_67 rfl (by rw [← hq]; exact ⟨rfl, hR, hK⟩)
    · replace h38 := b2i_0.mp h38
      rw [if_neg (by rw [h38]; decide)] at hq
      refine aw_iconst (v := -1) dX9_readFares_41 (by decide) ?_
      exact aw_iret dX9_readFares_42 rfl (by rw [← hq]; exact ⟨rfl, hR, hK⟩)
set_option maxRecDepth 100000 in
set_option maxHeartbeats 4000000 in
theorem r_readFares {l : Launch} {g : ab_G} {Mb : ab_M} {a0 : Nat} {ρ : Nat → Nat} {σ : rS} {n : Nat} (hR : RR g Mb a0 ρ σ) (hT : tT σ n) : AM l g Y_X9_readFares 3 71 0 0 [.ref a0] Mb (ab_Qi (fun x M' => x = (q_rfs σ n).1 ∧ RR g M' a0 ρ (tσ σ (q_rfs σ n).2.1 (q_rfs σ n).2.2) ∧ KR Mb M')) := by
  refine AM.of [some (.ref a0), none, none, none] (by decide +kernel) (Nat.le_of_ble_eq_true rfl) rfl ?_
  have hK : KR Mb Mb := KR.rf
  refine aw_aload_n dX9_readFares_0 rfl ?_
  refine aw_iconst (v := 0) dX9_readFares_1 (by decide) ?_
  refine rw_put_32 dX9_readFares_2 fl_X9_154_10 hR hK (fun M hR hK => ?_)
  refine aw_iconst (v := 0) dX9_readFares_5 (by decide) ?_
  refine aw_istore_n dX9_readFares_6 rfl (by decide) ?_
  have hR : RR g M a0 ρ (tσ σ 0 (σ.2.1 34)) := by
    have e : tσ σ 0 (σ.2.1 34) = rs σ 32 0 := ra_id rfl
    rw [e]
    exact hR
  refine gl (fun s M9 => RR g M9 a0 ρ (tσ σ 0 s) ∧ KR Mb M9) (fun i s M9 => AW l g ab_X0 (ab_Z g (ab_Qi (fun x M' => x = (q_rfs σ n).1 ∧ RR g M' a0 ρ (tσ σ (q_rfs σ n).2.1 (q_rfs σ n).2.2) ∧ KR Mb M'))) Y_X9_readFares 3 71 0 0 7 [some (.ref a0), some (.int (nI i)), none, none] [] M9) (k_put 0) (fun _ _ => True) 10 (fun _ _ _ _ => trivial) ?_ 10 0 (σ.2.1 34) _ rfl trivial ⟨hR, hK⟩ ?_
  · intro i s M9 h1 _ hp9 kk
    obtain ⟨hR, hK⟩ := id hp9
    have hi : vp_in (nI i) 10 := vp_in_nI (by omega) (by omega)
    have hcl := nI_cl (n := i) (by omega)
    refine aw_iload_n dX9_readFares_7 rfl ?_
    refine aw_bipush (v := 10) dX9_readFares_8 (by decide) ?_
    refine aw_icmp_ge (tgt := 26) dX9_readFares_10 (by decide) (fun h10 => absurd h10 (by rw [show (10 : Int32) = nI 10 from rfl]; exact nI_ge h1 (by omega))) (fun h10 => ?_)
    refine aw_aload_n dX9_readFares_13 rfl ?_
    refine aw_get dX9_readFares_14 fg_X9_94_10 hR.1 rfl ?_
    refine aw_iload_n dX9_readFares_17 rfl ?_
    refine aw_iconst (v := 0) dX9_readFares_18 (by decide) ?_
    refine rw_iast_34 dX9_readFares_19 (by first | assumption | (unfold vp_in; decide)) hR hK (fun M hR hK => ?_)
    refine aw_iinc dX9_readFares_20 rfl (ii_1 i) rfl (by decide) ?_
    refine aw_goto (tgt := 7) dX9_readFares_23 (by decide) ?_
    exact kk _ ⟨by have := hR; rw [show (tσ σ 0 s).2.1 34 = s from rfl, hcl, tσ_R] at this; exact this, hK⟩ trivial
  · intro M9 hp9 _
    obtain ⟨hR, hK⟩ := id hp9
    refine aw_iload_n dX9_readFares_7 rfl ?_
    refine aw_bipush (v := 10) dX9_readFares_8 (by decide) ?_
    refine aw_icmp_ge (tgt := 26) dX9_readFares_10 (by decide) (fun h10 => ?_) (fun h10 => absurd (by rw [show (10 : Int32) = nI 10 from rfl]; exact Int32.le_refl _) h10)
    refine aw_iconst (v := 0) dX9_readFares_26 (by decide) ?_
    refine aw_istore_n dX9_readFares_27 rfl (by decide) ?_
    refine aw_iconst (v := 1) dX9_readFares_28 (by decide) ?_
    refine aw_istore_n dX9_readFares_29 rfl (by decide) ?_
    exact rt_rf hT 5 0 0 _ _ _ rfl (by decide) (Nat.zero_le _) hR hK rfl
def k_cp (R : Nat → Int32) (i : Nat) (q : Nat → Int32) : Nat → Int32 := upd q i (R i)
def f_fares2 (σ : rS) (r : Int32 × Nat × (Nat → Int32)) : Int32 × rS := if 0 ≤ r.1 then (r.1, ra (rs (tσ σ r.2.1 r.2.2) 31 0) 33 (lp (k_cp r.2.2) 0 10 (σ.2.1 33))) else (-20 - nI r.2.1, rs (tσ σ r.2.1 r.2.2) 31 0)
def f_fares (σ : rS) : Int32 × rS := f_fares2 σ (q_rfs σ (σ.1 31).toNatClampNeg)
theorem rI_T {σ : rS} (hI : rI σ) : tT σ (σ.1 31).toNatClampNeg := by
  have h := hI.2.2.2.1
  have e : (σ.1 31).toNatClampNeg = (σ.1 31).toInt.toNat := rfl
  refine ⟨?_, by omega⟩
  apply Int32.toInt_inj.mp
  rw [nI_toInt (by omega)]
  omega
set_option maxRecDepth 100000 in
set_option maxHeartbeats 4000000 in
theorem r_fares {l : Launch} {g : ab_G} {Mb : ab_M} {a0 : Nat} {ρ : Nat → Nat} {σ : rS} (hR : RR g Mb a0 ρ σ) (hI : rI σ) : AM l g Y_X9_fares 4 94 0 0 [.ref a0] Mb (ab_Qi (fun x M' => x = (f_fares σ).1 ∧ RR g M' a0 ρ (f_fares σ).2 ∧ KR Mb M')) := by
  refine AM.of [some (.ref a0), none, none] (by decide +kernel) (Nat.le_of_ble_eq_true rfl) rfl ?_
  have hT := rI_T hI
  have hK : KR Mb Mb := KR.rf
  show AW l g ab_X0 (ab_Z g (ab_Qi (fun x M' => x = (f_fares2 σ (q_rfs σ (σ.1 31).toNatClampNeg)).1 ∧ RR g M' a0 ρ (f_fares2 σ (q_rfs σ (σ.1 31).toNatClampNeg)).2 ∧ KR Mb M'))) Y_X9_fares 4 94 0 0 0 _ [] _
  refine aw_aload_n dX9_fares_0 rfl ?_
  refine aw_V0i (kc' := 0) (ks' := 0) dX9_fares_1 cs_X9_169_10 hR.1 (r_readFares hR hT) rfl (Nat.le_of_ble_eq_true rfl) (fun x1 M1 h1 => ?_)
  obtain ⟨rfl, hR, hK1⟩ := h1
  replace hK := hK.tr hK1
  generalize q_rfs σ (σ.1 31).toNatClampNeg = r at *
  refine aw_istore_n dX9_fares_4 rfl (by decide) ?_
  refine aw_aload_n dX9_fares_5 rfl ?_
  refine aw_iconst (v := 0) dX9_fares_6 (by decide) ?_
  refine rw_put_31 dX9_fares_7 fl_X9_151_10 hR hK (fun M hR hK => ?_)
  refine aw_iload_n dX9_fares_10 rfl ?_
  refine aw_if_ge (tgt := 22) dX9_fares_11 (by decide) (fun h11 => ?_) (fun h11 => ?_)
  · have hq : f_fares2 σ r = (r.1, ra (rs (tσ σ r.2.1 r.2.2) 31 0) 33 (lp (k_cp r.2.2) 0 10 (σ.2.1 33))) := by rw [f_fares2, if_pos h11]
    refine aw_iconst (v := 0) dX9_fares_22 (by decide) ?_
    refine aw_istore_n dX9_fares_23 rfl (by decide) ?_
    have hR : RR g M a0 ρ (ra (rs (tσ σ r.2.1 r.2.2) 31 0) 33 (σ.2.1 33)) := by
      rw [show ra (rs (tσ σ r.2.1 r.2.2) 31 0) 33 (σ.2.1 33) = rs (tσ σ r.2.1 r.2.2) 31 0 from ra_id rfl]
      exact hR
    refine gl (fun s M9 => RR g M9 a0 ρ (ra (rs (tσ σ r.2.1 r.2.2) 31 0) 33 s) ∧ KR Mb M9) (fun i s M9 => AW l g ab_X0 (ab_Z g (ab_Qi (fun x M' => x = (f_fares2 σ r).1 ∧ RR g M' a0 ρ (f_fares2 σ r).2 ∧ KR Mb M'))) Y_X9_fares 4 94 0 0 24 [some (.ref a0), some (.int r.1), some (.int (nI i))] [] M9) (k_cp r.2.2) (fun _ _ => True) 10 (fun _ _ _ _ => trivial) ?_ 10 0 (σ.2.1 33) _ rfl trivial ⟨hR, hK⟩ ?_
    · intro i s M9 h1 _ hp9 kk
      obtain ⟨hR, hK⟩ := id hp9
      have hi : vp_in (nI i) 10 := vp_in_nI (by omega) (by omega)
      have hcl := nI_cl (n := i) (by omega)
      refine aw_iload_n dX9_fares_24 rfl ?_
      refine aw_bipush (v := 10) dX9_fares_25 (by decide) ?_
      refine aw_icmp_ge (tgt := 48) dX9_fares_27 (by decide) (fun h27 => absurd h27 (by rw [show (10 : Int32) = nI 10 from rfl]; exact nI_ge h1 (by omega))) (fun h27 => ?_)
      refine aw_aload_n dX9_fares_30 rfl ?_
      refine aw_get dX9_fares_31 fg_X9_91_10 hR.1 rfl ?_
      refine aw_iload_n dX9_fares_34 rfl ?_
      refine aw_aload_n dX9_fares_35 rfl ?_
      refine aw_get dX9_fares_36 fg_X9_94_10 hR.1 rfl ?_
      refine aw_iload_n dX9_fares_39 rfl ?_
      refine aw_iald dX9_fares_40 (rr_34 hR) (by first | assumption | (unfold vp_in; decide)) ?_
      refine rw_iast_33 dX9_fares_41 (by first | assumption | (unfold vp_in; decide)) hR hK (fun M hR hK => ?_)
      refine aw_iinc dX9_fares_42 rfl (ii_1 i) rfl (by decide) ?_
      refine aw_goto (tgt := 24) dX9_fares_45 (by decide) ?_
      exact kk _ ⟨by have := hR; rw [show (ra (rs (tσ σ r.2.1 r.2.2) 31 0) 33 s).2.1 33 = s from rfl, show (ra (rs (tσ σ r.2.1 r.2.2) 31 0) 33 s).2.1 34 = r.2.2 from rfl, hcl, ra_ra] at this; exact this, hK⟩ trivial
    · intro M9 hp9 _
      obtain ⟨hR, hK⟩ := id hp9
      refine aw_iload_n dX9_fares_24 rfl ?_
      refine aw_bipush (v := 10) dX9_fares_25 (by decide) ?_
      refine aw_icmp_ge (tgt := 48) dX9_fares_27 (by decide) (fun h27 => ?_) (fun h27 => absurd (by rw [show (10 : Int32) = nI 10 from rfl]; exact Int32.le_refl _) h27)
      refine aw_iload_n dX9_fares_48 rfl ?_
      exact aw_iret dX9_fares_49 rfl (by rw [hq]; exact ⟨rfl, hR, hK⟩)
  · refine aw_bipush (v := -20) dX9_fares_14 (by decide) ?_
    refine aw_aload_n dX9_fares_16 rfl ?_
    refine aw_get dX9_fares_17 fg_X9_154_10 hR.1 rfl ?_
    refine aw_isub dX9_fares_20 ?_
    exact aw_iret dX9_fares_21 rfl (by rw [f_fares2, if_neg h11]; exact ⟨rfl, hR, hK⟩)
