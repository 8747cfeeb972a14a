/-! ===== the reference's methods, 9: clauses, fares, type ===== -/
def k_put (v : Int32) (i : Nat) (R : Nat → Int32) : Nat → Int32 := upd R i v
def q_fillR (lo hi pr : Int32) (R : Nat → Int32) : Nat → Int32 := lp (k_put pr) lo.toNatClampNeg (hi.toNatClampNeg + 1 - lo.toNatClampNeg) R
def q_tail (T : Nat → Int32) (n : Nat) (lo hi : Int32) (p : Nat) (R : Nat → Int32) : Bool × Nat × (Nat → Int32) :=
  if q_cur T n (sk T n p) = 58 then (if 0 ≤ (q_num T n 0 99 (sk T n p + 1)).1 then (true, (q_num T n 0 99 (sk T n p + 1)).2, q_fillR lo hi (q_num T n 0 99 (sk T n p + 1)).1 R) else (false, (q_num T n 0 99 (sk T n p + 1)).2, R)) else (false, sk T n p, R)
def q_clause2 (T : Nat → Int32) (n : Nat) (lo : Int32) (p : Nat) (R : Nat → Int32) : Bool × Nat × (Nat → Int32) :=
  if q_cur T n (sk T n p) = 45 then (if 0 ≤ (q_num T n lo 9 (sk T n p + 1)).1 then q_tail T n lo (q_num T n lo 9 (sk T n p + 1)).1 (q_num T n lo 9 (sk T n p + 1)).2 R else (false, (q_num T n lo 9 (sk T n p + 1)).2, R)) else q_tail T n lo lo (sk T n p) R
def q_clause (T : Nat → Int32) (n : Nat) (p : Nat) (R : Nat → Int32) : Bool × Nat × (Nat → Int32) :=
  if 0 ≤ (q_num T n 0 9 p).1 then q_clause2 T n (q_num T n 0 9 p).1 (q_num T n 0 9 p).2 R else (false, (q_num T n 0 9 p).2, R)
theorem q_num_in {T : Nat → Int32} {n p : Nat} {lo hi : Int32} (h : 0 ≤ (q_num T n lo hi p).1) : q_in (q_num T n lo hi p).1 lo hi = true := by
  unfold q_num at h ⊢
  split at h
  · exact absurd h (show ¬ (0 : Int32) ≤ -1 by decide)
  · next h2 =>
    rw [if_neg h2]
    cases hq : q_in (dg T n hi (sk T n p) 0).2 lo hi with
    | true => rfl
    | false => exact absurd (Or.inr hq) h2
theorem q_cur_lt {T : Nat → Int32} {n p : Nat} {c : Int32} (h : q_cur T n p = c) (hc : ¬ c = -1) : p < n := by
  unfold q_cur at h
  split at h
  · next h2 => exact h2
  · exact absurd h.symm hc
theorem sk_sk {T : Nat → Int32} {n p : Nat} (h : p ≤ n) : sk T n (sk T n p) = sk T n p := by
  have key : ∀ (k p : Nat), n - p = k → p ≤ n → sk T n (sk T n p) = sk T n p := by
    intro k
    induction k with
    | zero =>
      intro p hk hp
      have e : sk T n p = p := sk_end (Or.inl (by omega))
      rw [e, e]
    | succ k ih =>
      intro p hk hp
      by_cases h2 : T p = 32
      · rw [sk_go (by omega) h2]
        exact ih (p + 1) (by omega) (by omega)
      · have e : sk T n p = p := sk_end (Or.inr h2)
        rw [e, e]
  exact key _ p rfl h
theorem tT_t {σ : rS} {n : Nat} (h : tT σ n) : tT σ n := h
theorem in_lohi {x : Int32} (h : q_in x 0 9 = true) : ∃ k : Nat, k ≤ 9 ∧ x = nI k := in_nat (b := 9) h (by decide) (by decide) (by decide)
set_option maxRecDepth 100000 in
set_option maxHeartbeats 4000000 in
theorem rt_tail {l : Launch} {g : ab_G} {Mb M1 : ab_M} {a0 : Nat} {ρ : Nat → Nat} {σ : rS} {n p : Nat} {R : Nat → Int32} {a b : Nat} (ha : a ≤ b) (hb : b ≤ 9) {z3 z4 : Option Value} (hR : RR g M1 a0 ρ (tσ σ p R)) (hK : KR Mb M1) (hT : tT σ n) (hp : p ≤ n) : AW l g ab_X0 (ab_Z g (ab_Qi (fun x M' => x = b2i (q_tail (σ.2.1 30) n (nI a) (nI b) p R).1 ∧ RR g M' a0 ρ (tσ σ (q_tail (σ.2.1 30) n (nI a) (nI b) p R).2.1 (q_tail (σ.2.1 30) n (nI a) (nI b) p R).2.2) ∧ KR Mb M'))) Y_X9_readClause 2 47 0 0 49 [some (.ref a0), some (.int (nI a)), some (.int (nI b)), z3, z4] [] M1 := by
  have hn50 := hT.2
  have hsk := sk_le (T := σ.2.1 30) hp
  refine aw_aload_n dX9_readClause_49 rfl ?_
  refine aw_V0i (kc' := 0) (ks' := 0) dX9_readClause_50 cs_X9_157_10 hR.1 (r_next hR hT (hp)) rfl (Nat.le_of_ble_eq_true rfl) (fun x50 M50 h50 => ?_)
  obtain ⟨rfl, hR, hK50⟩ := h50
  replace hK := hK.tr hK50
  refine aw_bipush (v := 58) dX9_readClause_53 (by decide) ?_
  refine aw_icmp_eq (tgt := 60) dX9_readClause_55 (by decide) (fun h55 => ?_) (fun h55 => ?_)
  · have hlt := q_cur_lt h55 (by decide)
    refine aw_aload_n dX9_readClause_60 rfl ?_
    refine aw_dup dX9_readClause_61 rfl ?_
    refine aw_get dX9_readClause_62 fg_X9_154_10 hR.1 rfl ?_
    refine aw_iconst (v := 1) dX9_readClause_65 (by decide) ?_
    refine aw_iadd dX9_readClause_66 ?_
    refine rw_put_32 dX9_readClause_67 fl_X9_154_10 hR hK (fun M hR hK => ?_)
    have hR : RR g M a0 ρ (tσ σ (sk (σ.2.1 30) n p + 1) R) := by
      have := hR
      rw [show (tσ σ (sk (σ.2.1 30) n p) R).1 32 + 1 = nI (sk (σ.2.1 30) n p + 1) from nI_1 _, tσ_at] at this
      exact this
    refine aw_aload_n dX9_readClause_70 rfl ?_
    refine aw_iconst (v := 0) dX9_readClause_71 (by decide) ?_
    refine aw_bipush (v := 99) dX9_readClause_72 (by decide) ?_
    refine aw_V2i (kc' := 0) (ks' := 0) dX9_readClause_74 cs_X9_161_10 hR.1 (r_number hR hT (by have := q_cur_lt h55 (by decide); omega)) rfl (Nat.le_of_ble_eq_true rfl) (fun x74 M74 h74 => ?_)
    obtain ⟨rfl, hR, hK74⟩ := h74
    replace hK := hK.tr hK74
    refine aw_istore_n dX9_readClause_77 rfl (by decide) ?_
    refine aw_iload_n dX9_readClause_78 rfl ?_
    refine aw_if_ge (tgt := 84) dX9_readClause_79 (by decide) (fun h79 => ?_) (fun h79 => ?_)
    · refine aw_iload_n dX9_readClause_84 rfl ?_
      refine aw_istore dX9_readClause_85 rfl (by decide) ?_
      have hq : q_tail (σ.2.1 30) n (nI a) (nI b) p R = (true, (q_num (σ.2.1 30) n 0 99 (sk (σ.2.1 30) n p + 1)).2, q_fillR (nI a) (nI b) (q_num (σ.2.1 30) n 0 99 (sk (σ.2.1 30) n p + 1)).1 R) := by rw [q_tail, if_pos h55, if_pos h79]
      rw [hq]
      generalize (q_num (σ.2.1 30) n 0 99 (sk (σ.2.1 30) n p + 1)).2 = p9 at *
      generalize (q_num (σ.2.1 30) n 0 99 (sk (σ.2.1 30) n p + 1)).1 = pr at *
      have hfr : q_fillR (nI a) (nI b) pr R = lp (k_put pr) a (b + 1 - a) R := by rw [q_fillR, nI_cl (by omega), nI_cl (by omega)]
      rw [hfr]
      have hK0 := hK
      refine gl (fun s M9 => RR g M9 a0 ρ (tσ σ p9 s) ∧ KR Mb M9) (fun i s M9 => AW l g ab_X0 (ab_Z g (ab_Qi (fun x M' => x = b2i true ∧ RR g M' a0 ρ (tσ σ p9 (lp (k_put pr) a (b + 1 - a) R)) ∧ KR Mb M'))) Y_X9_readClause 2 47 0 0 87 [some (.ref a0), some (.int (nI a)), some (.int (nI b)), some (.int pr), some (.int (nI i))] [] M9) (k_put pr) (fun i _ => i ≤ b + 1) (b + 1) (fun i s h1 h2 => by omega) ?_ (b + 1 - a) a R _ (by omega) (by omega) ⟨hR, hK⟩ ?_
      · intro i s M9 h1 h2 hp9 kk
        obtain ⟨hR, hK⟩ := id hp9
        have hi : vp_in (nI i) 10 := vp_in_nI (by omega) (by omega)
        have hcl := nI_cl (n := i) (by omega)
        refine aw_iload dX9_readClause_87 rfl ?_
        refine aw_iload_n dX9_readClause_89 rfl ?_
        refine aw_icmp_gt (tgt := 107) dX9_readClause_90 (by decide) (fun h90 => absurd h90 (by rw [nI_ltI (by omega) (by omega)]; omega)) (fun h90 => ?_)
        refine aw_aload_n dX9_readClause_93 rfl ?_
        refine aw_get dX9_readClause_94 fg_X9_94_10 hR.1 rfl ?_
        refine aw_iload dX9_readClause_97 rfl ?_
        refine aw_iload_n dX9_readClause_99 rfl ?_
        refine rw_iast_34 dX9_readClause_100 (by first | assumption | (unfold vp_in; decide)) hR hK (fun M hR hK => ?_)
        refine aw_iinc dX9_readClause_101 rfl (ii_1 i) rfl (by decide) ?_
        refine aw_goto (tgt := 87) dX9_readClause_104 (by decide) ?_
        exact kk _ ⟨by have := hR; rw [show (tσ σ p9 s).2.1 34 = s from rfl, hcl, tσ_R] at this; exact this, hK⟩ (by omega)
      · intro M9 hp9 _
        obtain ⟨hR, hK⟩ := id hp9
        refine aw_iload dX9_readClause_87 rfl ?_
        refine aw_iload_n dX9_readClause_89 rfl ?_
        refine aw_icmp_gt (tgt := 107) dX9_readClause_90 (by decide) (fun h90 => ?_) (fun h90 => absurd (by rw [nI_ltI (by omega) (by omega)]; omega) h90)
        refine aw_iconst (v := 1) dX9_readClause_107 (by decide) ?_
        exact aw_zret dX9_readClause_108 rfl rfl ⟨rfl, hR, hK⟩
    · refine aw_iconst (v := 0) dX9_readClause_82 (by decide) ?_
      exact aw_zret dX9_readClause_83 rfl rfl ⟨by rw [q_tail, if_pos h55, if_neg h79]; rfl, by rw [q_tail, if_pos h55, if_neg h79]; exact hR, hK⟩
  · refine aw_iconst (v := 0) dX9_readClause_58 (by decide) ?_
    exact aw_zret dX9_readClause_59 rfl rfl ⟨by rw [q_tail, if_neg h55]; rfl, by rw [q_tail, if_neg h55]; exact hR, hK⟩
set_option maxRecDepth 100000 in
set_option maxHeartbeats 4000000 in
theorem r_readClause {l : Launch} {g : ab_G} {M : ab_M} {a0 : Nat} {ρ : Nat → Nat} {σ : rS} {n p0 : Nat} {R : Nat → Int32} (hR : RR g M a0 ρ (tσ σ p0 R)) (hT : tT σ n) (hp : p0 ≤ n) : AM l g Y_X9_readClause 2 47 0 0 [.ref a0] M (ab_Qi (fun x M' => x = b2i (q_clause (σ.2.1 30) n p0 R).1 ∧ RR g M' a0 ρ (tσ σ (q_clause (σ.2.1 30) n p0 R).2.1 (q_clause (σ.2.1 30) n p0 R).2.2) ∧ KR M M')) := by
  refine AM.of [some (.ref a0), none, none, none, none] (by decide +kernel) (Nat.le_of_ble_eq_true rfl) rfl ?_
  have hn50 := hT.2
  have hK : KR M M := KR.rf
  refine aw_aload_n dX9_readClause_0 rfl ?_
  refine aw_iconst (v := 0) dX9_readClause_1 (by decide) ?_
  refine aw_bipush (v := 9) dX9_readClause_2 (by decide) ?_
  refine aw_V2i (kc' := 0) (ks' := 0) dX9_readClause_4 cs_X9_161_10 hR.1 (r_number hR hT (hp)) rfl (Nat.le_of_ble_eq_true rfl) (fun x4 M4 h4 => ?_)
  obtain ⟨rfl, hR, hK4⟩ := h4
  replace hK := hK.tr hK4
  refine aw_istore_n dX9_readClause_7 rfl (by decide) ?_
  refine aw_iload_n dX9_readClause_8 rfl ?_
  refine aw_if_ge (tgt := 14) dX9_readClause_9 (by decide) (fun h9 => ?_) (fun h9 => ?_)
  · have hlo := in_lohi (q_num_in h9)
    have hq : q_clause (σ.2.1 30) n p0 R = q_clause2 (σ.2.1 30) n (q_num (σ.2.1 30) n 0 9 p0).1 (q_num (σ.2.1 30) n 0 9 p0).2 R := by rw [q_clause, if_pos h9]
    rw [hq]
    have hp1 := q_num_le (T := σ.2.1 30) (lo := 0) (hi := 9) hp
    generalize (q_num (σ.2.1 30) n 0 9 p0).2 = p1 at *
    generalize (q_num (σ.2.1 30) n 0 9 p0).1 = lo at *
    obtain ⟨a, ha, rfl⟩ := hlo
    have hsk := sk_le (T := σ.2.1 30) hp1
    refine aw_iload_n dX9_readClause_14 rfl ?_
    refine aw_istore_n dX9_readClause_15 rfl (by decide) ?_
    refine aw_aload_n dX9_readClause_16 rfl ?_
    refine aw_V0i (kc' := 0) (ks' := 0) dX9_readClause_17 cs_X9_157_10 hR.1 (r_next hR hT (hp1)) rfl (Nat.le_of_ble_eq_true rfl) (fun x17 M17 h17 => ?_)
    obtain ⟨rfl, hR, hK17⟩ := h17
    replace hK := hK.tr hK17
    refine aw_bipush (v := 45) dX9_readClause_20 (by decide) ?_
    refine aw_icmp_ne (tgt := 49) dX9_readClause_22 (by decide) (fun h22 => ?_) (fun h22 => ?_)
    · rw [q_clause2, if_neg h22]
      first | exact rt_tail hab hb hR hK hT (by omega) | exact rt_tail (Nat.le_refl _) ha hR hK hT (by omega)
    · have hlt := q_cur_lt h22 (by decide)
      refine aw_aload_n dX9_readClause_25 rfl ?_
      refine aw_dup dX9_readClause_26 rfl ?_
      refine aw_get dX9_readClause_27 fg_X9_154_10 hR.1 rfl ?_
      refine aw_iconst (v := 1) dX9_readClause_30 (by decide) ?_
      refine aw_iadd dX9_readClause_31 ?_
      refine rw_put_32 dX9_readClause_32 fl_X9_154_10 hR hK (fun M hR hK => ?_)
      have hR : RR g M a0 ρ (tσ σ (sk (σ.2.1 30) n p1 + 1) R) := by
        have := hR
        rw [show (tσ σ (sk (σ.2.1 30) n p1) R).1 32 + 1 = nI (sk (σ.2.1 30) n p1 + 1) from nI_1 _, tσ_at] at this
        exact this
      refine aw_aload_n dX9_readClause_35 rfl ?_
      refine aw_iload_n dX9_readClause_36 rfl ?_
      refine aw_bipush (v := 9) dX9_readClause_37 (by decide) ?_
      refine aw_V2i (kc' := 0) (ks' := 0) dX9_readClause_39 cs_X9_161_10 hR.1 (r_number hR hT (by have := q_cur_lt h22 (by decide); omega)) rfl (Nat.le_of_ble_eq_true rfl) (fun x39 M39 h39 => ?_)
      obtain ⟨rfl, hR, hK39⟩ := h39
      replace hK := hK.tr hK39
      refine aw_istore_n dX9_readClause_42 rfl (by decide) ?_
      refine aw_iload_n dX9_readClause_43 rfl ?_
      refine aw_if_ge (tgt := 49) dX9_readClause_44 (by decide) (fun h44 => ?_) (fun h44 => ?_)
      · have hhi := q_num_in h44
        have hq2 : q_clause2 (σ.2.1 30) n (nI a) p1 R = q_tail (σ.2.1 30) n (nI a) (q_num (σ.2.1 30) n (nI a) 9 (sk (σ.2.1 30) n p1 + 1)).1 (q_num (σ.2.1 30) n (nI a) 9 (sk (σ.2.1 30) n p1 + 1)).2 R := by rw [q_clause2, if_pos h22, if_pos h44]
        rw [hq2]
        have hp2 := q_num_le (T := σ.2.1 30) (lo := nI a) (hi := 9) (show sk (σ.2.1 30) n p1 + 1 ≤ n by omega)
        generalize (q_num (σ.2.1 30) n (nI a) 9 (sk (σ.2.1 30) n p1 + 1)).2 = p2 at *
        generalize (q_num (σ.2.1 30) n (nI a) 9 (sk (σ.2.1 30) n p1 + 1)).1 = hi at *
        obtain ⟨b, hb, rfl⟩ := in_nat (b := 9) hhi (by rw [nI_toInt (by omega)]; omega) (by decide) (by decide)
        have hab : a ≤ b := by have := (q_in_iff.mp hhi).1; rw [nI_toInt (by omega), nI_toInt (by omega)] at this; omega
        first | exact rt_tail hab hb hR hK hT (by omega) | exact rt_tail (Nat.le_refl _) ha hR hK hT (by omega)
      · refine aw_iconst (v := 0) dX9_readClause_47 (by decide) ?_
        exact aw_zret dX9_readClause_48 rfl rfl ⟨by rw [q_clause2, if_pos h22, if_neg h44]; rfl, by rw [q_clause2, if_pos h22, if_neg h44]; exact hR, hK⟩
  · refine aw_iconst (v := 0) dX9_readClause_12 (by decide) ?_
    exact aw_zret dX9_readClause_13 rfl rfl ⟨by rw [q_clause, if_neg h9]; rfl, by rw [q_clause, if_neg h9]; exact hR, hK⟩
