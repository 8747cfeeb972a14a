/-! ===== the class's giving ===== -/
def oN (s : Nat) : Nat := (q_ones (nI s)).toNatClampNeg
theorem or_eq : ∀ k, k < 6 → ∀ s, s < 64 → nI s ||| (1 <<< (nI k &&& 31)) = nI (s ||| 2 ^ k) ∧ (s ||| 2 ^ k) < 64 := by decide +kernel
theorem bc_eq : ∀ s, s < 64 → q_bc (nI s) = nI (oN s) ∧ oN s ≤ 6 := by decide +kernel
theorem all_eq : ∀ n, n ≤ 6 → (1 <<< (nI n &&& 31) : Int32) - 1 = nI (2 ^ n - 1) ∧ 2 ^ n - 1 < 64 ∧ 0 < 2 ^ n := by decide +kernel
def q_tw (tl lst : Nat → Int32) (s k : Nat) : Int32 := if (s ||| 2 ^ k) = s ∨ 36 ≤ 6 * oN s + k then -1 else if tl (6 * oN s + k) = -1 ∨ lst (s ||| 2 ^ k) = -1 then -1 else tl (6 * oN s + k) + lst (s ||| 2 ^ k)
theorem i6b {q c : Nat} (hq : q < 100) (hc : c < 6) : nI q * 6 + nI c = nI (6 * q + c) := i6 hq hc
set_option maxRecDepth 100000 in
set_option maxHeartbeats 4000000 in
theorem c_setToil {l : Launch} {g : ab_G} {M : ab_M} {α : Nat → Nat → Nat} {nf nj nm : Nat} {κ : cS} (hC : CC g M α nf nj nm κ) {i k : Nat} (hi : i < 6) (hk : k < 6) {v : Int32} : AM l g Y_X3_setToil 1 22 0 0 [.ref (α 7 0), .int (nI i), .int (nI k), .int v] M (ab_Qv (fun M' => CC g M' α nf nj nm (cp κ 38 (6 * i + k) v) ∧ KH M M')) := by
  refine AM.of [some (.ref (α 7 0)), some (.int (nI i)), some (.int (nI k)), some (.int v)] (by decide +kernel) (Nat.le_of_ble_eq_true rfl) rfl ?_
  have hK : KH M M := KT.rf
  have hz : ∀ x, x < 6 → q_in (nI x) 0 5 = true := fun x hx => q_in_iff.mpr (by rw [nI_toInt (by omega), t_0, show (5 : Int32).toInt = 5 by decide]; omega)
  have h6 := i6 (q := i) (c := k) (by omega) hk
  have hc6 := nI_cl (n := 6 * i + k) (by omega)
  refine aw_iload_n dX3_setToil_0 rfl ?_
  refine aw_iconst (v := 0) dX3_setToil_1 (by decide) ?_
  refine aw_iconst (v := 5) dX3_setToil_2 (by decide) ?_
  refine aw_N3i (kc' := 0) (ks' := 0) dX3_setToil_3 cs_X3_27 c_outside rfl (Nat.le_of_ble_eq_true rfl) (fun x3 M3 h3 => ?_)
  obtain ⟨rfl, e3⟩ := h3
  replace e3 := e3.symm
  subst e3
  rw [q_out_in, hz i hi]
  refine aw_if_ne (tgt := 18) dX3_setToil_6 (by decide) (fun h66 => absurd (show b2i (!true) = 0 from rfl) h66) (fun h66 => ?_)
  refine aw_iload_n dX3_setToil_9 rfl ?_
  refine aw_iconst (v := 0) dX3_setToil_10 (by decide) ?_
  refine aw_iconst (v := 5) dX3_setToil_11 (by decide) ?_
  refine aw_N3i (kc' := 0) (ks' := 0) dX3_setToil_12 cs_X3_27 c_outside rfl (Nat.le_of_ble_eq_true rfl) (fun x12 M12 h12 => ?_)
  obtain ⟨rfl, e12⟩ := h12
  replace e12 := e12.symm
  subst e12
  rw [q_out_in, hz k hk]
  refine aw_if_eq (tgt := 19) dX3_setToil_15 (by decide) (fun h15 => ?_) (fun h15 => absurd (show b2i (!true) = 0 from rfl) h15)
  refine aw_aload_n dX3_setToil_19 rfl ?_
  refine aw_get dX3_setToil_20 fg_X3_11_4 hC.2.2.2.1.1 rfl ?_
  refine aw_iload_n dX3_setToil_23 rfl ?_
  refine aw_bipush (v := 6) dX3_setToil_24 (by decide) ?_
  refine aw_imul dX3_setToil_26 ?_
  refine aw_iload_n dX3_setToil_27 rfl ?_
  refine aw_iadd dX3_setToil_28 ?_
  rw [h6]
  refine aw_iload_n dX3_setToil_29 rfl ?_
  refine cw_s_toils dX3_setToil_30 (vp_in_nI (by omega) (by omega)) hC hK (fun M hC hK => ?_)
  exact aw_vret dX3_setToil_31 rfl ⟨by rw [← hc6]; exact hC, hK⟩
set_option maxRecDepth 100000 in
set_option maxHeartbeats 4000000 in
theorem c_toilWith {l : Launch} {g : ab_G} {M : ab_M} {α : Nat → Nat → Nat} {nf nj nm : Nat} {κ : cS} (hC : CC g M α nf nj nm κ) {s k : Nat} (hs : s < 64) (hk : k < 6) : AM l g Y_X3_toilWith 1 20 0 0 [.ref (α 7 0), .int (nI s), .int (nI k)] M (ab_Qi (fun x M' => x = q_tw (κ.1.2.1 38) (κ.1.2.1 39) s k ∧ M' = M)) := by
  refine AM.of [some (.ref (α 7 0)), some (.int (nI s)), some (.int (nI k)), none, none] (by decide +kernel) (Nat.le_of_ble_eq_true rfl) rfl ?_
  obtain ⟨e1, e2⟩ := or_eq k hk s hs
  obtain ⟨e3, e4⟩ := bc_eq s hs
  have h6 := i6 (q := oN s) (c := k) (by omega) hk
  have hc6 := nI_cl (n := 6 * oN s + k) (by omega)
  have hcs := nI_cl (n := s ||| 2 ^ k) (by omega)
  have hin1 : vp_in (nI (s ||| 2 ^ k)) 64 := vp_in_nI (by omega) (by omega)
  refine aw_iload_n dX3_toilWith_0 rfl ?_
  refine aw_iconst (v := 1) dX3_toilWith_1 (by decide) ?_
  refine aw_iload_n dX3_toilWith_2 rfl ?_
  refine aw_ishl dX3_toilWith_3 ?_
  refine aw_ior dX3_toilWith_4 ?_
  rw [e1]
  refine aw_istore_n dX3_toilWith_5 rfl (by decide) ?_
  refine aw_iload_n dX3_toilWith_6 rfl ?_
  refine aw_S1i (kc' := 0) (ks' := 0) dX3_toilWith_7 cs_X3_35 j_bc rfl (Nat.le_of_ble_eq_true rfl) (fun x7 M7 h7 => ?_)
  obtain ⟨rfl, e7⟩ := h7
  replace e7 := e7.symm
  subst e7
  rw [e3]
  refine aw_bipush (v := 6) dX3_toilWith_10 (by decide) ?_
  refine aw_imul dX3_toilWith_12 ?_
  refine aw_iload_n dX3_toilWith_13 rfl ?_
  refine aw_iadd dX3_toilWith_14 ?_
  rw [h6]
  refine aw_istore dX3_toilWith_15 rfl (by decide) ?_
  refine aw_iload_n dX3_toilWith_17 rfl ?_
  refine aw_iload_n dX3_toilWith_18 rfl ?_
  refine aw_icmp_eq (tgt := 41) dX3_toilWith_19 (by decide) (fun h19 => ?_) (fun h19 => ?_)
  · have h19 : (s ||| 2 ^ k) = s := (nI_eq_iff (by omega) (by omega)).mp h19
    refine aw_iconst (v := -1) dX3_toilWith_41 (by decide) ?_
    exact aw_iret dX3_toilWith_42 rfl ⟨by first | (rw [q_tw, if_pos (Or.inl h19)]; done) | (rw [q_tw, if_pos (Or.inr h38)]; done), rfl⟩
  · have h19 : ¬ (s ||| 2 ^ k) = s := fun e => h19 (by rw [e])
    refine aw_iload_n dX3_toilWith_22 rfl ?_
    refine aw_aload_n dX3_toilWith_23 rfl ?_
    refine aw_get dX3_toilWith_24 fg_X3_15_4 hC.2.2.2.1.1 rfl ?_
    refine aw_alen dX3_toilWith_27 hC.2.2.2.1.2.2.1 0 rfl rfl ?_
    refine aw_icmp_ge (tgt := 41) dX3_toilWith_28 (by decide) (fun h28 => absurd (show nI 64 ≤ nI (s ||| 2 ^ k) from h28) (by rw [nI_le_iff (by omega) (by omega)]; omega)) (fun h28 => ?_)
    refine aw_iload dX3_toilWith_31 rfl ?_
    refine aw_aload_n dX3_toilWith_33 rfl ?_
    refine aw_get dX3_toilWith_34 fg_X3_11_4 hC.2.2.2.1.1 rfl ?_
    refine aw_alen dX3_toilWith_37 hC.2.2.2.1.2.1 0 rfl rfl ?_
    refine aw_icmp_lt (tgt := 43) dX3_toilWith_38 (by decide) (fun h38 => ?_) (fun h38 => ?_)
    · have h38 : ¬ 36 ≤ 6 * oN s + k := by have h9 : nI (6 * oN s + k) < nI 36 := h38; rw [nI_ltI (by omega) (by omega)] at h9; omega
      have hin2 : vp_in (nI (6 * oN s + k)) 36 := vp_in_nI (by omega) (by omega)
      have hnn : ¬ ((s ||| 2 ^ k) = s ∨ 36 ≤ 6 * oN s + k) := fun q => q.elim h19 h38
      refine aw_aload_n dX3_toilWith_43 rfl ?_
      refine aw_get dX3_toilWith_44 fg_X3_11_4 hC.2.2.2.1.1 rfl ?_
      refine aw_iload dX3_toilWith_47 rfl ?_
      refine aw_iald dX3_toilWith_49 hC.2.2.2.1.2.1 hin2 ?_
      refine aw_iconst (v := -1) dX3_toilWith_50 (by decide) ?_
      refine aw_icmp_eq (tgt := 64) dX3_toilWith_51 (by decide) (fun h51 => ?_) (fun h51 => ?_)
      · rw [hc6] at h51
        refine aw_iconst (v := -1) dX3_toilWith_64 (by decide) ?_
        refine aw_goto (tgt := 82) dX3_toilWith_65 (by decide) ?_
        first | exact aw_iret dX3_toilWith_82 rfl ⟨by rw [q_tw, if_neg hnn, if_pos (Or.inl h51)], rfl⟩ | exact aw_iret dX3_toilWith_82 rfl ⟨by rw [q_tw, if_neg hnn, if_neg (fun q => q.elim h51 h61), hc6, hcs], rfl⟩ | exact aw_iret dX3_toilWith_82 rfl ⟨by rw [q_tw, if_neg hnn, if_pos (Or.inr h61)], rfl⟩
      · rw [hc6] at h51
        refine aw_aload_n dX3_toilWith_54 rfl ?_
        refine aw_get dX3_toilWith_55 fg_X3_15_4 hC.2.2.2.1.1 rfl ?_
        refine aw_iload_n dX3_toilWith_58 rfl ?_
        refine aw_iald dX3_toilWith_59 hC.2.2.2.1.2.2.1 hin1 ?_
        refine aw_iconst (v := -1) dX3_toilWith_60 (by decide) ?_
        refine aw_icmp_ne (tgt := 68) dX3_toilWith_61 (by decide) (fun h61 => ?_) (fun h61 => ?_)
        · rw [hcs] at h61
          refine aw_aload_n dX3_toilWith_68 rfl ?_
          refine aw_get dX3_toilWith_69 fg_X3_11_4 hC.2.2.2.1.1 rfl ?_
          refine aw_iload dX3_toilWith_72 rfl ?_
          refine aw_iald dX3_toilWith_74 hC.2.2.2.1.2.1 hin2 ?_
          refine aw_aload_n dX3_toilWith_75 rfl ?_
          refine aw_get dX3_toilWith_76 fg_X3_15_4 hC.2.2.2.1.1 rfl ?_
          refine aw_iload_n dX3_toilWith_79 rfl ?_
          refine aw_iald dX3_toilWith_80 hC.2.2.2.1.2.2.1 hin1 ?_
          refine aw_iadd dX3_toilWith_81 ?_
          first | exact aw_iret dX3_toilWith_82 rfl ⟨by rw [q_tw, if_neg hnn, if_pos (Or.inl h51)], rfl⟩ | exact aw_iret dX3_toilWith_82 rfl ⟨by rw [q_tw, if_neg hnn, if_neg (fun q => q.elim h51 h61), hc6, hcs], rfl⟩ | exact aw_iret dX3_toilWith_82 rfl ⟨by rw [q_tw, if_neg hnn, if_pos (Or.inr h61)], rfl⟩
        · rw [hcs] at h61
          refine aw_iconst (v := -1) dX3_toilWith_64 (by decide) ?_
          refine aw_goto (tgt := 82) dX3_toilWith_65 (by decide) ?_
          first | exact aw_iret dX3_toilWith_82 rfl ⟨by rw [q_tw, if_neg hnn, if_pos (Or.inl h51)], rfl⟩ | exact aw_iret dX3_toilWith_82 rfl ⟨by rw [q_tw, if_neg hnn, if_neg (fun q => q.elim h51 h61), hc6, hcs], rfl⟩ | exact aw_iret dX3_toilWith_82 rfl ⟨by rw [q_tw, if_neg hnn, if_pos (Or.inr h61)], rfl⟩
    · have h38 : 36 ≤ 6 * oN s + k := by have h9 : ¬ nI (6 * oN s + k) < nI 36 := h38; rw [nI_ltI (by omega) (by omega)] at h9; omega
      refine aw_iconst (v := -1) dX3_toilWith_41 (by decide) ?_
      exact aw_iret dX3_toilWith_42 rfl ⟨by first | (rw [q_tw, if_pos (Or.inl h19)]; done) | (rw [q_tw, if_pos (Or.inr h38)]; done), rfl⟩
def k_fl (tl : Nat → Int32) (s : Nat) (k : Nat) (lst : Nat → Int32) : Nat → Int32 := if ¬ q_tw tl lst s k = -1 ∧ (lst s = -1 ∨ q_tw tl lst s k < lst s) then upd lst s (q_tw tl lst s k) else lst
def h_fl (tl : Nat → Int32) (n s : Nat) (lst : Nat → Int32) : Nat → Int32 := lp (k_fl tl s) 0 n (upd lst s (-1))
def h_out (tl : Nat → Int32) (n : Nat) : Nat → (Nat → Int32) → Nat → Int32
  | 0, lst => lst
  | s + 1, lst => h_out tl n s (h_fl tl n s lst)
def h_least (tl lst : Nat → Int32) (n : Nat) : Nat → Int32 := h_out tl n (2 ^ n - 1) (upd lst (2 ^ n - 1) 0)
theorem cp_cr {κ : cS} {k s : Nat} {a : Nat → Int32} {v : Int32} : cp (cr κ k a) k s v = cr κ k (upd a s v) := by
  show (ra (ra κ.1 k a) k (upd ((ra κ.1 k a).2.1 k) s v), κ.2) = _
  rw [ra_ra, show (ra κ.1 k a).2.1 k = a by simp [ra]]
  rfl
theorem cr_cr {κ : cS} {k : Nat} {a b : Nat → Int32} : cr (cr κ k a) k b = cr κ k b := by
  unfold cr
  rw [ra_ra]
set_option maxRecDepth 100000 in
set_option maxHeartbeats 4000000 in
theorem c_findLeast {l : Launch} {g : ab_G} {Mb : ab_M} {α : Nat → Nat → Nat} {nf nj nm : Nat} {κ : cS} (hC : CC g Mb α nf nj nm κ) {n : Nat} (hn6 : n ≤ 6) (h1 : q_in (nI n) 1 6 = true) : AM l g Y_X3_findLeast 2 44 0 0 [.ref (α 7 0), .int (nI n)] Mb (ab_Qi (fun x M' => x = h_least (κ.1.2.1 38) (κ.1.2.1 39) n 0 ∧ CC g M' α nf nj nm (cr κ 39 (h_least (κ.1.2.1 38) (κ.1.2.1 39) n)) ∧ KH Mb M')) := by
  refine AM.of [some (.ref (α 7 0)), some (.int (nI n)), none, none, none, none] (by decide +kernel) (Nat.le_of_ble_eq_true rfl) rfl ?_
  obtain ⟨ea, eb, ec⟩ := all_eq n hn6
  have outer : ∀ (m : Nat) (lst : Nat → Int32) (M : ab_M), m ≤ 2 ^ n - 1 → h_out (κ.1.2.1 38) n m lst = h_least (κ.1.2.1 38) (κ.1.2.1 39) n → CC g M α nf nj nm (cr κ 39 lst) → KH Mb M → ∀ z4 z5 : Option Value, AW l g ab_X0 (ab_Z g (ab_Qi (fun x M' => x = h_least (κ.1.2.1 38) (κ.1.2.1 39) n 0 ∧ CC g M' α nf nj nm (cr κ 39 (h_least (κ.1.2.1 38) (κ.1.2.1 39) n)) ∧ KH Mb M'))) Y_X3_findLeast 2 44 0 0 29 [some (.ref (α 7 0)), some (.int (nI n)), some (.int (nI (2 ^ n - 1))), some (.int (nI m - 1)), z4, z5] [] M := by
    intro m
    induction m with
    | zero =>
      intro lst M hm hq hC hK z4 z5
      rw [← hq]
      refine aw_iload_n dX3_findLeast_29 rfl ?_
      refine aw_if_lt (tgt := 105) dX3_findLeast_30 (by decide) (fun h30 => ?_) (fun h30 => absurd neg_1 h30)
      refine aw_aload_n dX3_findLeast_105 rfl ?_
      refine aw_get dX3_findLeast_106 fg_X3_15_4 hC.2.2.2.1.1 rfl ?_
      refine aw_iconst (v := 0) dX3_findLeast_109 (by decide) ?_
      refine aw_iald dX3_findLeast_110 hC.2.2.2.1.2.2.1 (by unfold vp_in; decide) ?_
      exact aw_iret dX3_findLeast_111 rfl ⟨rfl, hC, hK⟩
    | succ s ih =>
      intro lst M hm hq hC hK z4 z5
      rw [nI_pred]
      have hs64 : s < 64 := by omega
      have hins : vp_in (nI s) 64 := vp_in_nI (by omega) (by omega)
      have hcl := nI_cl (n := s) (by omega)
      refine aw_iload_n dX3_findLeast_29 rfl ?_
      refine aw_if_lt (tgt := 105) dX3_findLeast_30 (by decide) (fun h30 => absurd h30 (nI_pos (by omega))) (fun h30 => ?_)
      refine aw_aload_n dX3_findLeast_33 rfl ?_
      refine aw_get dX3_findLeast_34 fg_X3_15_4 hC.2.2.2.1.1 rfl ?_
      refine aw_iload_n dX3_findLeast_37 rfl ?_
      refine aw_iconst (v := -1) dX3_findLeast_38 (by decide) ?_
      refine cw_s_least dX3_findLeast_39 hins hC hK (fun M hC hK => ?_)
      refine aw_iconst (v := 0) dX3_findLeast_40 (by decide) ?_
      refine aw_istore dX3_findLeast_41 rfl (by decide) ?_
      replace hC : CC g M α nf nj nm (cr κ 39 (upd lst s (-1))) := by have h9 := hC; rw [hcl, cp_cr] at h9; exact h9
      refine gl (fun lst M9 => CC g M9 α nf nj nm (cr κ 39 lst) ∧ KH Mb M9) (fun k lst M9 => ∀ z5 : Option Value, AW l g ab_X0 (ab_Z g (ab_Qi (fun x M' => x = h_least (κ.1.2.1 38) (κ.1.2.1 39) n 0 ∧ CC g M' α nf nj nm (cr κ 39 (h_least (κ.1.2.1 38) (κ.1.2.1 39) n)) ∧ KH Mb M'))) Y_X3_findLeast 2 44 0 0 43 [some (.ref (α 7 0)), some (.int (nI n)), some (.int (nI (2 ^ n - 1))), some (.int (nI s)), some (.int (nI k)), z5] [] M9) (k_fl (κ.1.2.1 38) s) (fun _ _ => True) n (fun _ _ _ _ => trivial) ?_ n 0 (upd lst s (-1)) _ (Nat.zero_add _) trivial ⟨hC, hK⟩ ?_ z5
      · clear hC hK hq
        intro k lst M hk _ hp kk z5
        obtain ⟨hC, hK⟩ := hp
        have kk : ∀ (M8 : ab_M) (l9 : Nat → Int32), l9 = k_fl (κ.1.2.1 38) s k lst → CC g M8 α nf nj nm (cr κ 39 l9) → KH Mb M8 → ∀ z5, AW l g ab_X0 (ab_Z g (ab_Qi (fun x M' => x = h_least (κ.1.2.1 38) (κ.1.2.1 39) n 0 ∧ CC g M' α nf nj nm (cr κ 39 (h_least (κ.1.2.1 38) (κ.1.2.1 39) n)) ∧ KH Mb M'))) Y_X3_findLeast 2 44 0 0 43 [some (.ref (α 7 0)), some (.int (nI n)), some (.int (nI (2 ^ n - 1))), some (.int (nI s)), some (.int (nI (k + 1))), z5] [] M8 := fun M8 l9 e9 hC hK => by subst e9; exact kk M8 ⟨hC, hK⟩ trivial
        refine aw_iload dX3_findLeast_43 rfl ?_
        refine aw_iload_n dX3_findLeast_45 rfl ?_
        refine aw_icmp_ge (tgt := 99) dX3_findLeast_46 (by decide) (fun h46 => absurd (nI_lt hk (by omega)) (Int32.not_lt.mpr h46)) (fun h46 => ?_)
        refine aw_aload_n dX3_findLeast_49 rfl ?_
        refine aw_iload_n dX3_findLeast_50 rfl ?_
        refine aw_iload dX3_findLeast_51 rfl ?_
        refine aw_V2i (kc' := 0) (ks' := 0) dX3_findLeast_53 cs_X3_31_4 hC.2.2.2.1.1 (c_toilWith hC hs64 (by omega)) rfl (Nat.le_of_ble_eq_true rfl) (fun x53 M53 h53 => ?_)
        obtain ⟨rfl, e53⟩ := h53
        replace e53 := e53.symm
        subst e53
        refine aw_istore dX3_findLeast_56 rfl (by decide) ?_
        refine aw_iload dX3_findLeast_58 rfl ?_
        refine aw_iconst (v := -1) dX3_findLeast_60 (by decide) ?_
        refine aw_icmp_eq (tgt := 93) dX3_findLeast_61 (by decide) (fun h61 => ?_) (fun h61 => ?_)
        · have e9 : lst = k_fl (κ.1.2.1 38) s k lst := by rw [k_fl, if_neg (fun q => q.1 h61)]
          refine aw_iinc dX3_findLeast_93 rfl (ii_1 k) rfl (by decide) ?_
          refine aw_goto (tgt := 43) dX3_findLeast_96 (by decide) ?_
          exact kk _ _ e9 (by first | exact hC | (have h9 := hC; rw [hcl, cp_cr] at h9; exact h9)) hK _
        · refine aw_aload_n dX3_findLeast_64 rfl ?_
          refine aw_get dX3_findLeast_65 fg_X3_15_4 hC.2.2.2.1.1 rfl ?_
          refine aw_iload_n dX3_findLeast_68 rfl ?_
          refine aw_iald dX3_findLeast_69 hC.2.2.2.1.2.2.1 hins ?_
          refine aw_iconst (v := -1) dX3_findLeast_70 (by decide) ?_
          refine aw_icmp_eq (tgt := 85) dX3_findLeast_71 (by decide) (fun h71 => ?_) (fun h71 => ?_)
          · have h71 : lst s = -1 := by rw [← hcl]; exact h71
            have e9 : upd lst s (q_tw (κ.1.2.1 38) lst s k) = k_fl (κ.1.2.1 38) s k lst := by rw [k_fl, if_pos ⟨h61, Or.inl h71⟩]
            refine aw_aload_n dX3_findLeast_85 rfl ?_
            refine aw_get dX3_findLeast_86 fg_X3_15_4 hC.2.2.2.1.1 rfl ?_
            refine aw_iload_n dX3_findLeast_89 rfl ?_
            refine aw_iload dX3_findLeast_90 rfl ?_
            refine cw_s_least dX3_findLeast_92 hins hC hK (fun M hC hK => ?_)
            refine aw_iinc dX3_findLeast_93 rfl (ii_1 k) rfl (by decide) ?_
            refine aw_goto (tgt := 43) dX3_findLeast_96 (by decide) ?_
            exact kk _ _ e9 (by first | exact hC | (have h9 := hC; rw [hcl, cp_cr] at h9; exact h9)) hK _
          · have h71 : ¬ lst s = -1 := by rw [← hcl]; exact h71
            refine aw_iload dX3_findLeast_74 rfl ?_
            refine aw_aload_n dX3_findLeast_76 rfl ?_
            refine aw_get dX3_findLeast_77 fg_X3_15_4 hC.2.2.2.1.1 rfl ?_
            refine aw_iload_n dX3_findLeast_80 rfl ?_
            refine aw_iald dX3_findLeast_81 hC.2.2.2.1.2.2.1 hins ?_
            refine aw_icmp_ge (tgt := 93) dX3_findLeast_82 (by decide) (fun h82 => ?_) (fun h82 => ?_)
            · have h82 : ¬ q_tw (κ.1.2.1 38) lst s k < lst s := by have h9 : lst (nI s).toNatClampNeg ≤ q_tw (κ.1.2.1 38) lst s k := h82; rw [hcl] at h9; exact Int32.not_lt.mpr h9
              have e9 : lst = k_fl (κ.1.2.1 38) s k lst := by rw [k_fl, if_neg (fun q => q.2.elim h71 h82)]
              refine aw_iinc dX3_findLeast_93 rfl (ii_1 k) rfl (by decide) ?_
              refine aw_goto (tgt := 43) dX3_findLeast_96 (by decide) ?_
              exact kk _ _ e9 (by first | exact hC | (have h9 := hC; rw [hcl, cp_cr] at h9; exact h9)) hK _
            · have h82 : q_tw (κ.1.2.1 38) lst s k < lst s := by have h9 : ¬ lst (nI s).toNatClampNeg ≤ q_tw (κ.1.2.1 38) lst s k := h82; rw [hcl] at h9; exact Int32.not_le.mp h9
              have e9 : upd lst s (q_tw (κ.1.2.1 38) lst s k) = k_fl (κ.1.2.1 38) s k lst := by rw [k_fl, if_pos ⟨h61, Or.inr h82⟩]
              refine aw_aload_n dX3_findLeast_85 rfl ?_
              refine aw_get dX3_findLeast_86 fg_X3_15_4 hC.2.2.2.1.1 rfl ?_
              refine aw_iload_n dX3_findLeast_89 rfl ?_
              refine aw_iload dX3_findLeast_90 rfl ?_
              refine cw_s_least dX3_findLeast_92 hins hC hK (fun M hC hK => ?_)
              refine aw_iinc dX3_findLeast_93 rfl (ii_1 k) rfl (by decide) ?_
              refine aw_goto (tgt := 43) dX3_findLeast_96 (by decide) ?_
              exact kk _ _ e9 (by first | exact hC | (have h9 := hC; rw [hcl, cp_cr] at h9; exact h9)) hK _
      · clear hC hK
        intro M hp _ z5
        obtain ⟨hC, hK⟩ := hp
        refine aw_iload dX3_findLeast_43 rfl ?_
        refine aw_iload_n dX3_findLeast_45 rfl ?_
        refine aw_icmp_ge (tgt := 99) dX3_findLeast_46 (by decide) (fun h46 => ?_) (fun h46 => absurd (Int32.le_refl _) h46)
        refine aw_iinc dX3_findLeast_99 rfl (ii_m1 s) rfl (by decide) ?_
        refine aw_goto (tgt := 29) dX3_findLeast_102 (by decide) ?_
        exact ih _ _ (by omega) hq hC hK _ _
  have hK : KH Mb Mb := KT.rf
  refine aw_iload_n dX3_findLeast_0 rfl ?_
  refine aw_iconst (v := 1) dX3_findLeast_1 (by decide) ?_
  refine aw_bipush (v := 6) dX3_findLeast_2 (by decide) ?_
  refine aw_N3i (kc' := 0) (ks' := 0) dX3_findLeast_4 cs_X3_27 c_outside rfl (Nat.le_of_ble_eq_true rfl) (fun x4 M4 h4 => ?_)
  obtain ⟨rfl, e4⟩ := h4
  replace e4 := e4.symm
  subst e4
  rw [q_out_in, h1]
  refine aw_if_eq (tgt := 12) dX3_findLeast_7 (by decide) (fun h7 => ?_) (fun h7 => absurd rfl h7)
  refine aw_iconst (v := 1) dX3_findLeast_12 (by decide) ?_
  refine aw_iload_n dX3_findLeast_13 rfl ?_
  refine aw_ishl dX3_findLeast_14 ?_
  refine aw_iconst (v := 1) dX3_findLeast_15 (by decide) ?_
  refine aw_isub dX3_findLeast_16 ?_
  rw [ea]
  refine aw_istore_n dX3_findLeast_17 rfl (by decide) ?_
  refine aw_aload_n dX3_findLeast_18 rfl ?_
  refine aw_get dX3_findLeast_19 fg_X3_15_4 hC.2.2.2.1.1 rfl ?_
  refine aw_iload_n dX3_findLeast_22 rfl ?_
  refine aw_iconst (v := 0) dX3_findLeast_23 (by decide) ?_
  refine cw_s_least dX3_findLeast_24 (vp_in_nI (by omega) (by omega)) hC hK (fun M hC hK => ?_)
  refine aw_iload_n dX3_findLeast_25 rfl ?_
  refine aw_iconst (v := 1) dX3_findLeast_26 (by decide) ?_
  refine aw_isub dX3_findLeast_27 ?_
  refine aw_istore_n dX3_findLeast_28 rfl (by decide) ?_
  exact outer (2 ^ n - 1) _ _ (Nat.le_refl _) rfl (by have h9 := hC; rw [nI_cl (n := 2 ^ n - 1) (by omega)] at h9; exact h9) hK none none
