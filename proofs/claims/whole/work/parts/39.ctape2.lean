/-! ===== the class's tape, 2 ===== -/
theorem num_ans {T : Nat → Int32} {n p : Nat} {lo hi : Int32} : (q_num T n lo hi p).1 = -1 ∨ q_in (q_num T n lo hi p).1 lo hi = true := by
  unfold q_num
  split
  · exact Or.inl rfl
  · next h =>
    refine Or.inr ?_
    cases hq : q_in (dg T n hi (sk T n p) 0).2 lo hi with
    | true => rfl
    | false => exact absurd (Or.inr hq) h
theorem num_nn {T : Nat → Int32} {n p : Nat} {lo hi : Int32} (h0 : 0 ≤ lo.toInt) (h : ¬ (q_num T n lo hi p).1 = -1) : 0 ≤ (q_num T n lo hi p).1 := by
  rcases num_ans (T := T) (n := n) (p := p) (lo := lo) (hi := hi) with e | e
  · exact absurd e h
  · have := (q_in_iff.mp e).1
    rw [Int32.le_iff_toInt_le, t_0]
    omega
theorem num_no {x : Int32} (h : x = -1) : ¬ 0 ≤ x := by
  subst h
  decide
set_option maxRecDepth 100000 in
set_option maxHeartbeats 4000000 in
theorem ct_tail {l : Launch} {g : ab_G} {Mb M1 : ab_M} {α : Nat → Nat → Nat} {nf nj nm : Nat} {κ : cS} {n p : Nat} {R : Nat → Int32} {a b : Nat} (ha : a ≤ b) (hb : b ≤ 9) {z3 z4 : Option Value} (hC : CC g M1 α nf nj nm (tκ κ p R)) (hK : KH Mb M1) (hT : tT κ.1 n) (hp : p ≤ n) : AW l g ab_X0 (ab_Z g (ab_Qi (fun x M' => x = b2i (q_tail (κ.1.2.1 30) n (nI a) (nI b) p R).1 ∧ CC g M' α nf nj nm (tκ κ (q_tail (κ.1.2.1 30) n (nI a) (nI b) p R).2.1 (q_tail (κ.1.2.1 30) n (nI a) (nI b) p R).2.2) ∧ KH Mb M'))) Y_X1_readClause 2 46 0 0 41 [some (.ref (α 3 0)), some (.int (nI a)), some (.int (nI b)), z3, z4] [] M1 := by
  have hn50 := hT.2
  have hsk := sk_le (T := (κ.1.2.1 30)) hp
  refine aw_aload_n dX1_readClause_41 rfl ?_
  refine aw_bipush (v := 58) dX1_readClause_42 (by decide) ?_
  refine aw_V1i (kc' := 0) (ks' := 0) dX1_readClause_44 cs_X1_56_2 hC.2.1.1 (c_readSign hC hT (hp) (by decide)) rfl (Nat.le_of_ble_eq_true rfl) (fun x44 M44 h44 => ?_)
  obtain ⟨rfl, hC, hK44⟩ := h44
  replace hK := hK.tr hK44
  refine aw_if_ne (tgt := 52) dX1_readClause_47 (by decide) (fun h47 => ?_) (fun h47 => ?_)
  · replace h47 := b2i_n.mp h47
    have h47 := of_decide_eq_true h47
    have hlt := q_cur_lt h47 (by decide)
    rw [if_pos h47] at hC
    refine aw_aload_n dX1_readClause_52 rfl ?_
    refine aw_iconst (v := 0) dX1_readClause_53 (by decide) ?_
    refine aw_bipush (v := 99) dX1_readClause_54 (by decide) ?_
    refine aw_V2i (kc' := 0) (ks' := 0) dX1_readClause_56 cs_X1_60_2 hC.2.1.1 (c_readNumber hC hT (by omega) (by decide) (by decide)) rfl (Nat.le_of_ble_eq_true rfl) (fun x56 M56 h56 => ?_)
    obtain ⟨rfl, hC, hK56⟩ := h56
    replace hK := hK.tr hK56
    refine aw_istore_n dX1_readClause_59 rfl (by decide) ?_
    refine aw_iload_n dX1_readClause_60 rfl ?_
    refine aw_iconst (v := -1) dX1_readClause_61 (by decide) ?_
    refine aw_icmp_ne (tgt := 67) dX1_readClause_62 (by decide) (fun h62 => ?_) (fun h62 => ?_)
    · have h62 := num_nn (by decide) h62
      refine aw_iload_n dX1_readClause_67 rfl ?_
      refine aw_istore dX1_readClause_68 rfl (by decide) ?_
      have hq : q_tail (κ.1.2.1 30) n (nI a) (nI b) p R = (true, (q_num (κ.1.2.1 30) n 0 99 (sk (κ.1.2.1 30) n p + 1)).2, q_fillR (nI a) (nI b) (q_num (κ.1.2.1 30) n 0 99 (sk (κ.1.2.1 30) n p + 1)).1 R) := by rw [q_tail, if_pos h47, if_pos h62]
      rw [hq]
      generalize (q_num (κ.1.2.1 30) n 0 99 (sk (κ.1.2.1 30) n p + 1)).2 = p9 at *
      generalize (q_num (κ.1.2.1 30) n 0 99 (sk (κ.1.2.1 30) n p + 1)).1 = pr at *
      have hfr : q_fillR (nI a) (nI b) pr R = lp (k_put pr) a (b + 1 - a) R := by rw [q_fillR, nI_cl (by omega), nI_cl (by omega)]
      rw [hfr]
      refine gl (fun s M9 => CC g M9 α nf nj nm (tκ κ p9 s) ∧ KH Mb M9) (fun i s M9 => AW l g ab_X0 (ab_Z g (ab_Qi (fun x M' => x = b2i true ∧ CC g M' α nf nj nm (tκ κ p9 (lp (k_put pr) a (b + 1 - a) R)) ∧ KH Mb M'))) Y_X1_readClause 2 46 0 0 70 [some (.ref (α 3 0)), some (.int (nI a)), some (.int (nI b)), some (.int pr), some (.int (nI i))] [] M9) (k_put pr) (fun i _ => i ≤ b + 1) (b + 1) (fun i s h1 h2 => by omega) ?_ (b + 1 - a) a R _ (by omega) (by omega) ⟨hC, hK⟩ ?_
      · clear hC hK
        intro i s M h1 h2 hp9 kk
        obtain ⟨hC, hK⟩ := hp9
        have hi : vp_in (nI i) 10 := vp_in_nI (by omega) (by omega)
        have hcl := nI_cl (n := i) (by omega)
        refine aw_iload dX1_readClause_70 rfl ?_
        refine aw_iload_n dX1_readClause_72 rfl ?_
        refine aw_icmp_gt (tgt := 100) dX1_readClause_73 (by decide) (fun h73 => absurd h73 (by rw [nI_ltI (by omega) (by omega)]; omega)) (fun h73 => ?_)
        refine aw_iload dX1_readClause_76 rfl ?_
        refine aw_aload_n dX1_readClause_78 rfl ?_
        refine aw_get dX1_readClause_79 fg_X1_18_2 hC.2.1.1 rfl ?_
        refine aw_alen dX1_readClause_82 hC.2.1.2.2.2 0 rfl rfl ?_
        refine aw_icmp_ge (tgt := 100) dX1_readClause_83 (by decide) (fun h83 => absurd (show nI 10 ≤ nI i from h83) (by rw [nI_le_iff (by omega) (by omega)]; omega)) (fun h83 => ?_)
        refine aw_aload_n dX1_readClause_86 rfl ?_
        refine aw_get dX1_readClause_87 fg_X1_18_2 hC.2.1.1 rfl ?_
        refine aw_iload dX1_readClause_90 rfl ?_
        refine aw_iload_n dX1_readClause_92 rfl ?_
        refine cw_s_draft dX1_readClause_93 hi hC hK (fun M hC hK => ?_)
        refine aw_iinc dX1_readClause_94 rfl (ii_1 i) rfl (by decide) ?_
        refine aw_goto (tgt := 70) dX1_readClause_97 (by decide) ?_
        exact kk _ ⟨by have h9 := hC; rw [show cp (tκ κ p9 s) 34 (nI i).toNatClampNeg pr = cr (tκ κ p9 s) 34 (upd s (nI i).toNatClampNeg pr) from rfl, hcl, tκ_R] at h9; exact h9, hK⟩ (by omega)
      · clear hC hK
        intro M hp9 _
        obtain ⟨hC, hK⟩ := hp9
        refine aw_iload dX1_readClause_70 rfl ?_
        refine aw_iload_n dX1_readClause_72 rfl ?_
        refine aw_icmp_gt (tgt := 100) dX1_readClause_73 (by decide) (fun h73 => ?_) (fun h73 => absurd (by rw [nI_ltI (by omega) (by omega)]; omega) h73)
        refine aw_iconst (v := 1) dX1_readClause_100 (by decide) ?_
        exact aw_zret dX1_readClause_101 rfl rfl ⟨rfl, hC, hK⟩
    · have h62 := num_no h62
      refine aw_iconst (v := 0) dX1_readClause_65 (by decide) ?_
      exact aw_zret dX1_readClause_66 rfl rfl ⟨by rw [q_tail, if_pos h47, if_neg h62]; rfl, by rw [q_tail, if_pos h47, if_neg h62]; exact hC, hK⟩
  · replace h47 := b2i_0.mp h47
    have h47 := of_decide_eq_false h47
    rw [if_neg h47] at hC
    refine aw_iconst (v := 0) dX1_readClause_50 (by decide) ?_
    exact aw_zret dX1_readClause_51 rfl rfl ⟨by rw [q_tail, if_neg h47]; rfl, by rw [q_tail, if_neg h47]; exact hC, hK⟩
set_option maxRecDepth 100000 in
set_option maxHeartbeats 4000000 in
theorem c_readClause {l : Launch} {g : ab_G} {Mb : ab_M} {α : Nat → Nat → Nat} {nf nj nm : Nat} {κ : cS} {n p0 : Nat} {R : Nat → Int32} (hC : CC g Mb α nf nj nm (tκ κ p0 R)) (hT : tT κ.1 n) (hp : p0 ≤ n) : AM l g Y_X1_readClause 2 46 0 0 [.ref (α 3 0)] Mb (ab_Qi (fun x M' => x = b2i (q_clause (κ.1.2.1 30) n p0 R).1 ∧ CC g M' α nf nj nm (tκ κ (q_clause (κ.1.2.1 30) n p0 R).2.1 (q_clause (κ.1.2.1 30) n p0 R).2.2) ∧ KH Mb M')) := by
  refine AM.of [some (.ref (α 3 0)), none, none, none, none] (by decide +kernel) (Nat.le_of_ble_eq_true rfl) rfl ?_
  have hn50 := hT.2
  have hK : KH Mb Mb := KT.rf
  refine aw_aload_n dX1_readClause_0 rfl ?_
  refine aw_iconst (v := 0) dX1_readClause_1 (by decide) ?_
  refine aw_bipush (v := 9) dX1_readClause_2 (by decide) ?_
  refine aw_V2i (kc' := 0) (ks' := 0) dX1_readClause_4 cs_X1_60_2 hC.2.1.1 (c_readNumber hC hT (hp) (by decide) (by decide)) rfl (Nat.le_of_ble_eq_true rfl) (fun x4 M4 h4 => ?_)
  obtain ⟨rfl, hC, hK4⟩ := h4
  replace hK := hK.tr hK4
  refine aw_istore_n dX1_readClause_7 rfl (by decide) ?_
  refine aw_iload_n dX1_readClause_8 rfl ?_
  refine aw_iconst (v := -1) dX1_readClause_9 (by decide) ?_
  refine aw_icmp_ne (tgt := 15) dX1_readClause_10 (by decide) (fun h10 => ?_) (fun h10 => ?_)
  · have h10 := num_nn (by decide) h10
    have hlo := in_lohi (q_num_in h10)
    have hq : q_clause (κ.1.2.1 30) n p0 R = q_clause2 (κ.1.2.1 30) n (q_num (κ.1.2.1 30) n 0 9 p0).1 (q_num (κ.1.2.1 30) n 0 9 p0).2 R := by rw [q_clause, if_pos h10]
    rw [hq]
    have hp1 := q_num_le (T := (κ.1.2.1 30)) (lo := 0) (hi := 9) hp
    generalize (q_num (κ.1.2.1 30) n 0 9 p0).2 = p1 at *
    generalize (q_num (κ.1.2.1 30) n 0 9 p0).1 = lo at *
    obtain ⟨a, ha, rfl⟩ := hlo
    have hsk := sk_le (T := (κ.1.2.1 30)) hp1
    refine aw_aload_n dX1_readClause_15 rfl ?_
    refine aw_bipush (v := 45) dX1_readClause_16 (by decide) ?_
    refine aw_V1i (kc' := 0) (ks' := 0) dX1_readClause_18 cs_X1_56_2 hC.2.1.1 (c_readSign hC hT (hp1) (by decide)) rfl (Nat.le_of_ble_eq_true rfl) (fun x18 M18 h18 => ?_)
    obtain ⟨rfl, hC, hK18⟩ := h18
    replace hK := hK.tr hK18
    refine aw_if_eq (tgt := 34) dX1_readClause_21 (by decide) (fun h21 => ?_) (fun h21 => ?_)
    · replace h21 := b2i_0.mp h21
      have h21 := of_decide_eq_false h21
      rw [if_neg h21] at hC
      rw [q_clause2, if_neg h21]
      refine aw_iload_n dX1_readClause_34 rfl ?_
      refine aw_istore_n dX1_readClause_35 rfl (by decide) ?_
      refine aw_iload_n dX1_readClause_36 rfl ?_
      refine aw_iconst (v := -1) dX1_readClause_37 (by decide) ?_
      refine aw_icmp_eq (tgt := 50) dX1_readClause_38 (by decide) (fun h38 => absurd h38 (fun e => by have := (nI_toInt (n := a) (by omega)); rw [e] at this; exact absurd this (by rw [show (-1 : Int32).toInt = -1 by decide]; omega))) (fun h38 => ?_)
      exact ct_tail (Nat.le_refl _) ha hC hK hT (by omega)
    · replace h21 := b2i_n.mp h21
      have h21 := of_decide_eq_true h21
      have hlt := q_cur_lt h21 (by decide)
      rw [if_pos h21] at hC
      refine aw_aload_n dX1_readClause_24 rfl ?_
      refine aw_iload_n dX1_readClause_25 rfl ?_
      refine aw_bipush (v := 9) dX1_readClause_26 (by decide) ?_
      refine aw_V2i (kc' := 0) (ks' := 0) dX1_readClause_28 cs_X1_60_2 hC.2.1.1 (c_readNumber hC hT (by omega) (by decide) (by decide)) rfl (Nat.le_of_ble_eq_true rfl) (fun x28 M28 h28 => ?_)
      obtain ⟨rfl, hC, hK28⟩ := h28
      replace hK := hK.tr hK28
      refine aw_goto (tgt := 35) dX1_readClause_31 (by decide) ?_
      refine aw_istore_n dX1_readClause_35 rfl (by decide) ?_
      refine aw_iload_n dX1_readClause_36 rfl ?_
      refine aw_iconst (v := -1) dX1_readClause_37 (by decide) ?_
      refine aw_icmp_eq (tgt := 50) dX1_readClause_38 (by decide) (fun h38 => ?_) (fun h38 => ?_)
      · have h38 := num_no h38
        refine aw_iconst (v := 0) dX1_readClause_50 (by decide) ?_
        exact aw_zret dX1_readClause_51 rfl rfl ⟨by rw [q_clause2, if_pos h21, if_neg h38]; rfl, by rw [q_clause2, if_pos h21, if_neg h38]; exact hC, hK⟩
      · have h38 := num_nn (by rw [nI_toInt (by omega)]; omega) h38
        have hhi := q_num_in h38
        have hq2 : q_clause2 (κ.1.2.1 30) n (nI a) p1 R = q_tail (κ.1.2.1 30) n (nI a) (q_num (κ.1.2.1 30) n (nI a) 9 (sk (κ.1.2.1 30) n p1 + 1)).1 (q_num (κ.1.2.1 30) n (nI a) 9 (sk (κ.1.2.1 30) n p1 + 1)).2 R := by rw [q_clause2, if_pos h21, if_pos h38]
        rw [hq2]
        have hp2 := q_num_le (T := (κ.1.2.1 30)) (lo := nI a) (hi := 9) (show sk (κ.1.2.1 30) n p1 + 1 ≤ n by omega)
        generalize (q_num (κ.1.2.1 30) n (nI a) 9 (sk (κ.1.2.1 30) n p1 + 1)).2 = p2 at *
        generalize (q_num (κ.1.2.1 30) n (nI a) 9 (sk (κ.1.2.1 30) n p1 + 1)).1 = hi at *
        obtain ⟨b, hb, rfl⟩ := in_nat (b := 9) hhi (by rw [nI_toInt (by omega)]; omega) (by decide) (by decide)
        have hab : a ≤ b := by have := (q_in_iff.mp hhi).1; rw [nI_toInt (by omega), nI_toInt (by omega)] at this; omega
        exact ct_tail hab hb hC hK hT (by omega)
  · have h10 := num_no h10
    refine aw_iconst (v := 0) dX1_readClause_13 (by decide) ?_
    exact aw_zret dX1_readClause_14 rfl rfl ⟨by rw [q_clause, if_neg h10]; rfl, by rw [q_clause, if_neg h10]; exact hC, hK⟩
theorem cur_neg {T : Nat → Int32} {n p : Nat} (h : ∀ q, q < n → 0 ≤ (T q).toInt) : q_cur T n p < 0 ↔ n ≤ p := by
  unfold q_cur
  split
  · next h1 =>
    have := h p h1
    rw [Int32.lt_iff_toInt_lt, t_0]
    omega
  · next h1 =>
    constructor
    · intro _
      omega
    · intro _
      decide
def rc (x : Int32) : Int32 := if 0 ≤ x then x else 0
set_option maxRecDepth 100000 in
set_option maxHeartbeats 4000000 in
theorem ct_rf {l : Launch} {g : ab_G} {Mb : ab_M} {α : Nat → Nat → Nat} {nf nj nm : Nat} {κ : cS} {n : Nat} (hT : tT κ.1 n) (hN : ∀ q, q < n → 0 ≤ ((κ.1.2.1 30) q).toInt) : ∀ (k c p : Nat) (R : Nat → Int32) (M1 : ab_M), c + k = 5 → 0 < k → p ≤ n → CC g M1 α nf nj nm (tκ κ p R) → KH Mb M1 → q_rf (κ.1.2.1 30) n k c p R = q_rfs κ.1 n → AW l g ab_X0 (ab_Z g (ab_Qi (fun x M' => x = rc (q_rfs κ.1 n).1 ∧ CC g M' α nf nj nm (tκ κ (q_rfs κ.1 n).2.1 (q_rfs κ.1 n).2.2) ∧ KH Mb M'))) Y_X1_readClauses 3 70 0 0 15 [some (.ref (α 3 0)), some (.int (nI (c + 1)))] [] M1 := by
  have hn50 := hT.2
  intro k
  induction k with
  | zero =>
    intro c p R M1 hc h0
    omega
  | succ k ih =>
    intro c p R M1 hc h0 hp hC hK hq
    have hpc := q_clause_le (T := (κ.1.2.1 30)) (R := R) hp
    have hsk := sk_le (T := (κ.1.2.1 30)) hpc
    have hss := sk_sk (T := (κ.1.2.1 30)) hpc
    have hcn := cur_neg (p := sk (κ.1.2.1 30) n (q_clause (κ.1.2.1 30) n p R).2.1) hN
    rw [q_rf] at hq
    refine aw_iload_n dX1_readClauses_15 rfl ?_
    refine aw_iconst (v := 5) dX1_readClauses_16 (by decide) ?_
    refine aw_icmp_gt (tgt := 60) dX1_readClauses_17 (by decide) (fun h17 => absurd (show nI 5 < nI (c + 1) from h17) (by rw [nI_ltI (by omega) (by omega)]; omega)) (fun h17 => ?_)
    refine aw_aload_n dX1_readClauses_20 rfl ?_
    refine aw_V0i (kc' := 0) (ks' := 0) dX1_readClauses_21 cs_X1_49_2 hC.2.1.1 (c_readClause hC hT hp) rfl (Nat.le_of_ble_eq_true rfl) (fun x21 M21 h21 => ?_)
    obtain ⟨rfl, hC, hK21⟩ := h21
    replace hK := hK.tr hK21
    refine aw_if_ne (tgt := 29) dX1_readClauses_24 (by decide) (fun h24 => ?_) (fun h24 => ?_)
    · replace h24 := b2i_n.mp h24
      rw [if_pos h24] at hq
      refine aw_aload_n dX1_readClauses_29 rfl ?_
      refine aw_V0i (kc' := 0) (ks' := 0) dX1_readClauses_30 cs_X1_53_2 hC.2.1.1 (c_isAtEnd hC hT hpc) rfl (Nat.le_of_ble_eq_true rfl) (fun x30 M30 h30 => ?_)
      obtain ⟨rfl, hC, hK30⟩ := h30
      replace hK := hK.tr hK30
      refine aw_if_eq (tgt := 38) dX1_readClauses_33 (by decide) (fun h33 => ?_) (fun h33 => ?_)
      · replace h33 := b2i_0.mp h33
        have h33 := of_decide_eq_false h33
        rw [if_neg (fun q => h33 (hcn.mp q))] at hq
        refine aw_iload_n dX1_readClauses_38 rfl ?_
        refine aw_iconst (v := 5) dX1_readClauses_39 (by decide) ?_
        refine aw_icmp_eq (tgt := 52) dX1_readClauses_40 (by decide) (fun h40 => ?_) (fun h40 => ?_)
        · have h40 : c + 1 = 5 := (nI_eq_iff (a := c + 1) (b := 5) (by omega) (by decide)).mp h40
          rw [if_pos (Or.inr h40)] at hq
          refine aw_iconst (v := 0) dX1_readClauses_52 (by decide) ?_
          exact aw_iret dX1_readClauses_53 rfl (by rw [← hq]; exact ⟨rfl, hC, hK⟩)
        · have h40 : ¬ c + 1 = 5 := fun e => h40 (by rw [e]; rfl)
          refine aw_aload_n dX1_readClauses_43 rfl ?_
          refine aw_bipush (v := 59) dX1_readClauses_44 (by decide) ?_
          refine aw_V1i (kc' := 0) (ks' := 0) dX1_readClauses_46 cs_X1_56_2 hC.2.1.1 (c_readSign hC hT hsk.2 (by decide)) rfl (Nat.le_of_ble_eq_true rfl) (fun x46 M46 h46 => ?_)
          obtain ⟨rfl, hC, hK46⟩ := h46
          replace hK := hK.tr hK46
          rw [hss] at hC
          rw [hss]
          refine aw_if_ne (tgt := 54) dX1_readClauses_49 (by decide) (fun h49 => ?_) (fun h49 => ?_)
          · replace h49 := b2i_n.mp h49
            have h49 := of_decide_eq_true h49
            rw [if_pos h49] at hC
            rw [if_neg (by rintro (h | h); exact h h49; exact h40 h)] at hq
            refine aw_iinc dX1_readClauses_54 rfl (ii_1 (c + 1)) rfl (by decide) ?_
            refine aw_goto (tgt := 15) dX1_readClauses_57 (by decide) ?_
            exact ih (c + 1) _ _ _ (by omega) (by omega) (by have := q_cur_lt h49 (by decide); omega) hC hK hq
          · replace h49 := b2i_0.mp h49
            have h49 := of_decide_eq_false h49
            rw [if_neg h49] at hC
            rw [if_pos (Or.inl h49)] at hq
            refine aw_iconst (v := 0) dX1_readClauses_52 (by decide) ?_
            exact aw_iret dX1_readClauses_53 rfl (by rw [← hq]; exact ⟨rfl, hC, hK⟩)
      · replace h33 := b2i_n.mp h33
        have h33 := of_decide_eq_true h33
        rw [if_pos (hcn.mpr h33)] at hq
        refine aw_iload_n dX1_readClauses_36 rfl ?_
        exact aw_iret dX1_readClauses_37 rfl (by rw [← hq]; refine ⟨?_, hC, hK⟩; show _ = rc (nI (c + 1)); rw [rc, if_pos (by rw [show (0 : Int32) = nI 0 from rfl, nI_le_iff (by omega) (by omega)]; omega)])
    · replace h24 := b2i_0.mp h24
      rw [if_neg (by rw [h24]; decide)] at hq
      refine aw_iconst (v := 0) dX1_readClauses_27 (by decide) ?_
      exact aw_iret dX1_readClauses_28 rfl (by rw [← hq]; exact ⟨rfl, hC, hK⟩)
set_option maxRecDepth 100000 in
set_option maxHeartbeats 4000000 in
theorem c_readClauses {l : Launch} {g : ab_G} {Mb : ab_M} {α : Nat → Nat → Nat} {nf nj nm : Nat} {κ : cS} {n : Nat} (hC : CC g Mb α nf nj nm κ) (hT : tT κ.1 n) (hN : ∀ q, q < n → 0 ≤ (κ.1.2.1 30 q).toInt) : AM l g Y_X1_readClauses 3 70 0 0 [.ref (α 3 0)] Mb (ab_Qi (fun x M' => x = rc (q_rfs κ.1 n).1 ∧ CC g M' α nf nj nm (tκ κ (q_rfs κ.1 n).2.1 (q_rfs κ.1 n).2.2) ∧ KH Mb M')) := by
  refine AM.of [some (.ref (α 3 0)), none] (by decide +kernel) (Nat.le_of_ble_eq_true rfl) rfl ?_
  have hK : KH Mb Mb := KT.rf
  refine aw_aload_n dX1_readClauses_0 rfl ?_
  refine aw_iconst (v := 0) dX1_readClauses_1 (by decide) ?_
  refine cw_pA4 dX1_readClauses_2 fl_X1_25_2 hC hK (fun M hC hK => ?_)
  refine aw_aload_n dX1_readClauses_5 rfl ?_
  refine aw_get dX1_readClauses_6 fg_X1_18_2 hC.2.1.1 rfl ?_
  refine aw_iconst (v := 0) dX1_readClauses_9 (by decide) ?_
  refine aw_S2v (kc' := 0) (ks' := 0) dX1_readClauses_10 cs_X1_28 (j_fill (by decide) hC.2.1.2.2.2) rfl (Nat.le_of_ble_eq_true rfl) (fun M10 h10 => ?_)
  replace hK : KH Mb M10 := by rw [h10]; exact hK.put hC.2.1.2.2.2 (show 4 < 20 by decide)
  replace hC : CC g M10 α nf nj nm (tκ κ 0 (q_R0 κ.1)) := by rw [h10]; exact cset_draft hC _
  refine aw_iconst (v := 1) dX1_readClauses_13 (by decide) ?_
  refine aw_istore_n dX1_readClauses_14 rfl (by decide) ?_
  exact ct_rf hT hN 5 0 0 _ _ rfl (by decide) (by omega) hC hK rfl
