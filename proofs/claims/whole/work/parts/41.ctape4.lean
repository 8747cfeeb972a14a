/-! ===== the class's tape, 4: append ===== -/
theorem byte_lem (w : BitVec 64) (s : Nat) (hs : s ≤ 56) : ((w.sshiftRight s) &&& 255#64).setWidth 32 = ((w >>> s).setWidth 32) &&& 255#32 := by
  apply BitVec.eq_of_getLsbD_eq
  intro i hi
  have h255 : ∀ n i, (255#n : BitVec n).getLsbD i = (decide (i < n) && Nat.testBit 255 i) := by
    intro n i
    rw [BitVec.getLsbD_ofNat]
  have h8 : ∀ i, 8 ≤ i → Nat.testBit 255 i = false := by
    intro i h
    exact Nat.testBit_lt_two_pow (Nat.lt_of_lt_of_le (by decide : 255 < 2 ^ 8) (Nat.pow_le_pow_right (by decide) h))
  simp only [BitVec.getLsbD_setWidth, BitVec.getLsbD_and, BitVec.getLsbD_sshiftRight, BitVec.getLsbD_ushiftRight, h255]
  by_cases h : i < 8
  · have h1 : s + i < 64 := by omega
    have h2 : i < 64 := by omega
    have h3 : ¬ 64 ≤ i := by omega
    simp [hi, h1, h2, h3]
  · rw [h8 i (by omega)]
    simp
theorem byte_one (w s : Int64) (u : UInt64) (n : Nat) (hn : n ≤ 56) (h1 : (s.toBitVec.smod 64).toNat = n) (h2 : (u.toBitVec % 64).toNat = n) : (w.toUInt64 >>> u).toInt64.toInt32 &&& 255 = ((w >>> s) &&& 255).toInt32 := by
  apply Int32.toBitVec_inj.mp
  rw [Int32.toBitVec_and, Int64.toBitVec_toInt32, Int64.toBitVec_toInt32, Int64.toBitVec_and, Int64.toBitVec_shiftRight, UInt64.toBitVec_toInt64, UInt64.toBitVec_shiftRight, Int64.toBitVec_toUInt64, BitVec.signExtend_eq_setWidth_of_le _ (by decide), BitVec.signExtend_eq_setWidth_of_le _ (by decide), BitVec.sshiftRight_eq', BitVec.ushiftRight_eq', h1, h2]
  exact (byte_lem w.toBitVec n hn).symm
theorem byte_eq (w : Int64) : ∀ k, k < 8 → q_byte2 w (nI k) = q_byte w (nI k) := by
  have key : ∀ k, k < 8 → (((8 * nI k).toInt64 &&& 63).toBitVec.smod 64).toNat = 8 * k ∧ ((((8 * nI k).toInt64.toUInt64 &&& Int64.toUInt64 63)).toBitVec % 64).toNat = 8 * k := by decide +kernel
  intro k hk
  obtain ⟨h1, h2⟩ := key k hk
  exact byte_one w _ _ (8 * k) (by omega) h1 h2
theorem okB_iff {w : Int64} : ∀ n, q_okB w n = true ↔ ∀ i, i < n → q_in (q_byte w (nI i)) 32 126 = true
  | 0 => ⟨fun _ i hi => absurd hi (by omega), fun _ => rfl⟩
  | n + 1 => by
    rw [q_okB, Bool.and_eq_true, okB_iff n]
    constructor
    · rintro ⟨h1, h2⟩ i hi
      by_cases e : i = n
      · rw [e]; exact h1
      · exact h2 i (by omega)
    · intro h
      exact ⟨h n (by omega), fun i hi => h i (by omega)⟩
set_option maxRecDepth 100000 in
set_option maxHeartbeats 4000000 in
theorem ct_app {l : Launch} {g : ab_G} {Mb : ab_M} {α : Nat → Nat → Nat} {nf nj nm : Nat} {κ : cS} {w : Int64} {N n0 : Nat} (hC : CC g Mb α nf nj nm κ) (hT : tT κ.1 n0) (hN8 : N ≤ 8) (h7 : q_in (nI N) 1 8 = true) : AW l g ab_X0 (ab_Z g (ab_Qi (fun x M' => x = (f_type κ.1 w (nI N)).1 ∧ CC g M' α nf nj nm ((f_type κ.1 w (nI N)).2, κ.2) ∧ KH Mb M'))) Y_X1_append 1 22 0 0 15 [some (.ref (α 3 0)), some (.long w), none, some (.int (nI N)), some (.int (nI 0))] [] Mb := by
  have hNc := nI_cl (n := N) (by omega)
  obtain ⟨h31, hn50⟩ := hT
  have fin : ∀ (m t : Nat) (τ : rS) (M1 : ab_M), m ≤ N → t + m ≤ 50 → τ.1 31 = nI t → q_typed w m τ = q_typed w N κ.1 → CC g M1 α nf nj nm (τ, κ.2) → KH Mb M1 → f_type κ.1 w (nI N) = ((q_typed w N κ.1).1 31, q_typed w N κ.1) → AW l g ab_X0 (ab_Z g (ab_Qi (fun x M' => x = (f_type κ.1 w (nI N)).1 ∧ CC g M' α nf nj nm ((f_type κ.1 w (nI N)).2, κ.2) ∧ KH Mb M'))) Y_X1_append 1 22 0 0 67 [some (.ref (α 3 0)), some (.long w), none, some (.int (nI N)), some (.int (nI m - 1))] [] M1 := by
    intro m
    induction m with
    | zero =>
      intro t τ M hm ht h31 hq hC hK hf
      rw [hf, ← hq]
      refine aw_iload dX1_append_67 rfl ?_
      refine aw_if_lt (tgt := 103) dX1_append_69 (by decide) (fun h69 => ?_) (fun h69 => absurd neg_1 h69)
      refine aw_aload_n dX1_append_103 rfl ?_
      refine aw_get dX1_append_104 fg_X1_21_2 hC.2.1.1 rfl ?_
      exact aw_iret dX1_append_107 rfl ⟨rfl, hC, hK⟩
    | succ m ih =>
      intro t τ M hm ht h31 hq hC hK hf
      rw [nI_pred]
      have hi : vp_in (τ.1 31) 50 := by rw [h31]; exact vp_in_nI (by omega) (by omega)
      refine aw_iload dX1_append_67 rfl ?_
      refine aw_if_lt (tgt := 103) dX1_append_69 (by decide) (fun h69 => absurd h69 (nI_pos (by omega))) (fun h69 => ?_)
      refine aw_aload_n dX1_append_72 rfl ?_
      refine aw_get dX1_append_73 fg_X1_11_2 hC.2.1.1 rfl ?_
      refine aw_aload_n dX1_append_76 rfl ?_
      refine aw_get dX1_append_77 fg_X1_21_2 hC.2.1.1 rfl ?_
      refine aw_lload_n dX1_append_80 rfl ?_
      refine aw_iload dX1_append_81 rfl ?_
      refine aw_S2i (kc' := 0) (ks' := 0) dX1_append_83 cs_X1_38 c_byteOf rfl (Nat.le_of_ble_eq_true rfl) (fun x83 M83 h83 => ?_)
      obtain ⟨rfl, e83⟩ := h83
      replace e83 := e83.symm
      subst e83
      rw [byte_eq w m (by omega)]
      refine cw_s_tape dX1_append_86 hi hC hK (fun M hC hK => ?_)
      refine aw_aload_n dX1_append_87 rfl ?_
      refine aw_dup dX1_append_88 rfl ?_
      refine aw_get dX1_append_89 fg_X1_21_2 hC.2.1.1 rfl ?_
      refine aw_iconst (v := 1) dX1_append_92 (by decide) ?_
      refine aw_iadd dX1_append_93 ?_
      refine cw_pA3 dX1_append_94 fl_X1_21_2 hC hK (fun M hC hK => ?_)
      refine aw_iinc dX1_append_97 rfl (ii_m1 m) rfl (by decide) ?_
      refine aw_goto (tgt := 67) dX1_append_100 (by decide) ?_
      exact ih (t + 1) _ _ (by omega) (by omega) (by show τ.1 31 + 1 = _; rw [h31]; exact nI_1 t) hq hC hK hf
  have chk : ∀ (k i : Nat) (M1 : ab_M), i + k = N → (∀ j, j < i → q_in (q_byte w (nI j)) 32 126 = true) → CC g M1 α nf nj nm κ → KH Mb M1 → AW l g ab_X0 (ab_Z g (ab_Qi (fun x M' => x = (f_type κ.1 w (nI N)).1 ∧ CC g M' α nf nj nm ((f_type κ.1 w (nI N)).2, κ.2) ∧ KH Mb M'))) Y_X1_append 1 22 0 0 15 [some (.ref (α 3 0)), some (.long w), none, some (.int (nI N)), some (.int (nI i))] [] M1 := by
    intro k
    induction k with
    | zero =>
      intro i M hm hall hC hK
      have e : i = N := by omega
      subst e
      have hok : q_okB w i = true := (okB_iff i).mpr hall
      refine aw_iload dX1_append_15 rfl ?_
      refine aw_iload_n dX1_append_17 rfl ?_
      refine aw_icmp_ge (tgt := 45) dX1_append_18 (by decide) (fun h18 => ?_) (fun h18 => absurd (Int32.le_refl _) h18)
      refine aw_aload_n dX1_append_45 rfl ?_
      refine aw_get dX1_append_46 fg_X1_21_2 hC.2.1.1 rfl ?_
      refine aw_iload_n dX1_append_49 rfl ?_
      refine aw_iadd dX1_append_50 ?_
      refine aw_aload_n dX1_append_51 rfl ?_
      refine aw_get dX1_append_52 fg_X1_11_2 hC.2.1.1 rfl ?_
      refine aw_alen dX1_append_55 hC.2.1.2.1 0 rfl rfl ?_
      refine aw_icmp_le (tgt := 62) dX1_append_56 (by decide) (fun h56 => ?_) (fun h56 => ?_)
      · refine aw_iload_n dX1_append_62 rfl ?_
        refine aw_iconst (v := 1) dX1_append_63 (by decide) ?_
        refine aw_isub dX1_append_64 ?_
        refine aw_istore dX1_append_65 rfl (by decide) ?_
        exact fin i n0 κ.1 _ (Nat.le_refl _) (by have h9 : κ.1.1 31 + nI i ≤ nI 50 := h56; rw [h31, nI_add, nI_le_iff (by omega) (by omega)] at h9; exact h9) h31 rfl hC hK (by rw [f_type, if_pos h7, hNc, if_pos hok, if_pos (show κ.1.1 31 + nI i ≤ 50 from h56)])
      · refine aw_bipush (v := -3) dX1_append_59 (by decide) ?_
        exact aw_iret dX1_append_61 rfl (by rw [f_type, if_pos h7, hNc, if_pos hok, if_neg (show ¬ κ.1.1 31 + nI i ≤ 50 from h56)]; exact ⟨rfl, hC, hK⟩)
    | succ k ih =>
      intro i M hm hall hC hK
      refine aw_iload dX1_append_15 rfl ?_
      refine aw_iload_n dX1_append_17 rfl ?_
      refine aw_icmp_ge (tgt := 45) dX1_append_18 (by decide) (fun h18 => absurd h18 (nI_ge (by omega) (by omega))) (fun h18 => ?_)
      refine aw_lload_n dX1_append_21 rfl ?_
      refine aw_iload dX1_append_22 rfl ?_
      refine aw_S2i (kc' := 0) (ks' := 0) dX1_append_24 cs_X1_38 c_byteOf rfl (Nat.le_of_ble_eq_true rfl) (fun x24 M24 h24 => ?_)
      obtain ⟨rfl, e24⟩ := h24
      replace e24 := e24.symm
      subst e24
      rw [byte_eq w i (by omega)]
      refine aw_bipush (v := 32) dX1_append_27 (by decide) ?_
      refine aw_bipush (v := 126) dX1_append_29 (by decide) ?_
      refine aw_N3i (kc' := 0) (ks' := 0) dX1_append_31 cs_X1_34 c_outside rfl (Nat.le_of_ble_eq_true rfl) (fun x31 M31 h31 => ?_)
      obtain ⟨rfl, e31⟩ := h31
      replace e31 := e31.symm
      subst e31
      rw [q_out_in]
      refine aw_if_eq (tgt := 39) dX1_append_34 (by decide) (fun h34 => ?_) (fun h34 => ?_)
      · replace h34 := b2i_0.mp h34
        simp at h34
        refine aw_iinc dX1_append_39 rfl (ii_1 i) rfl (by decide) ?_
        refine aw_goto (tgt := 15) dX1_append_42 (by decide) ?_
        exact ih (i + 1) _ (by omega) (fun j hj => by by_cases e : j = i; rw [e]; exact h34; exact hall j (by omega)) hC hK
      · replace h34 := b2i_n.mp h34
        simp at h34
        have hok : ¬ q_okB w N = true := fun q => by
          have h9 := (okB_iff N).mp q i (by omega)
          rw [h34] at h9
          cases h9
        refine aw_iconst (v := -1) dX1_append_37 (by decide) ?_
        exact aw_iret dX1_append_38 rfl (by rw [f_type, if_pos h7, hNc, if_neg hok]; exact ⟨rfl, hC, hK⟩)
  exact chk N 0 Mb (by omega) (fun j hj => absurd hj (by omega)) hC KT.rf
set_option maxRecDepth 100000 in
set_option maxHeartbeats 4000000 in
theorem c_append {l : Launch} {g : ab_G} {Mb : ab_M} {α : Nat → Nat → Nat} {nf nj nm : Nat} {κ : cS} {w : Int64} {n : Int32} {n0 : Nat} (hC : CC g Mb α nf nj nm κ) (hT : tT κ.1 n0) : AM l g Y_X1_append 1 22 0 0 [.ref (α 3 0), .long w, .int n] Mb (ab_Qi (fun x M' => x = (f_type κ.1 w n).1 ∧ CC g M' α nf nj nm ((f_type κ.1 w n).2, κ.2) ∧ KH Mb M')) := by
  refine AM.of [some (.ref (α 3 0)), some (.long w), none, some (.int n), none] (by decide +kernel) (Nat.le_of_ble_eq_true rfl) rfl ?_
  have hK : KH Mb Mb := KT.rf
  refine aw_iload_n dX1_append_0 rfl ?_
  refine aw_iconst (v := 1) dX1_append_1 (by decide) ?_
  refine aw_bipush (v := 8) dX1_append_2 (by decide) ?_
  refine aw_N3i (kc' := 0) (ks' := 0) dX1_append_4 cs_X1_34 c_outside rfl (Nat.le_of_ble_eq_true rfl) (fun x4 M4 h4 => ?_)
  obtain ⟨rfl, e4⟩ := h4
  replace e4 := e4.symm
  subst e4
  rw [q_out_in]
  refine aw_if_eq (tgt := 12) dX1_append_7 (by decide) (fun h7 => ?_) (fun h7 => ?_)
  · replace h7 := b2i_0.mp h7
    simp at h7
    obtain ⟨N, hN8, rfl⟩ := in_nat (b := 8) h7 (by decide) (by decide) (by decide)
    refine aw_iconst (v := 0) dX1_append_12 (by decide) ?_
    refine aw_istore dX1_append_13 rfl (by decide) ?_
    exact ct_app hC hT hN8 h7
  · replace h7 := b2i_n.mp h7
    simp at h7
    refine aw_iconst (v := -1) dX1_append_10 (by decide) ?_
    exact aw_iret dX1_append_11 rfl (by rw [f_type, if_neg (by rw [h7]; decide)]; exact ⟨rfl, hC, hK⟩)
set_option maxRecDepth 100000 in
set_option maxHeartbeats 4000000 in
theorem c_type {l : Launch} {g : ab_G} {Mb : ab_M} {α : Nat → Nat → Nat} {nf nj nm : Nat} {κ : cS} {w : Int64} {n : Int32} {n0 : Nat} (hC : CC g Mb α nf nj nm κ) (hT : tT κ.1 n0) : AM l g Y_X8_type 2 46 0 0 [.ref (α 0 0), .long w, .int n] Mb (ab_Qi (fun x M' => x = (f_type κ.1 w n).1 ∧ CC g M' α nf nj nm ((f_type κ.1 w n).2, κ.2) ∧ KH Mb M')) := by
  refine AM.of [some (.ref (α 0 0)), some (.long w), none, some (.int n)] (by decide +kernel) (Nat.le_of_ble_eq_true rfl) rfl ?_
  refine aw_aload_n dX8_type_0 rfl ?_
  refine aw_get dX8_type_1 fg_X8_25_9 hC.1 rfl ?_
  refine aw_lload_n dX8_type_4 rfl ?_
  refine aw_iload_n dX8_type_5 rfl ?_
  refine aw_V2i (kc' := 0) (ks' := 0) dX8_type_6 cs_X8_134_2 hC.2.1.1 (c_append hC hT) rfl (Nat.le_of_ble_eq_true rfl) (fun x6 M6 h6 => ?_)
  obtain ⟨rfl, h1, h2⟩ := h6
  exact aw_iret dX8_type_9 rfl ⟨rfl, h1, h2⟩
