/-! ===== the JDK's methods that are reached, 2 ===== -/
set_option maxRecDepth 100000 in
set_option maxHeartbeats 4000000 in
theorem j_growI {l : Launch} {g : ab_G} {M : ab_M} (td : Nat × Nat) {a : Nat} {t : Nat × Nat} {v0 v2 : Value} {n : Int32} (ha : M a = some (t, .inr (0, [v0, .ref (ab_e0 g), v2]))) (hn : q_max 10 n = 10) : AM l g Y_Jx4a65c_grow_92f84 1 21 1 10 [.ref a, .int n] M (ab_Qr (fun d M' => M d = none ∧ M' = ab_set (ab_set M d td (ab_aq g 10 (fun _ => none))) a t (.inr (0, [v0, .ref d, v2])))) := by
  refine AM.of [some (.ref a), some (.int n), none, none] (by decide +kernel) (Nat.le_of_ble_eq_true rfl) rfl ?_
  refine aw_aload_n dJx4a65c_grow_92f84_0 rfl ?_
  refine aw_get dJx4a65c_grow_92f84_1 fg_Jx4a65c_9_0 ha rfl ?_
  refine aw_alen0 dJx4a65c_grow_92f84_4 ?_
  refine aw_istore_n dJx4a65c_grow_92f84_5 rfl (by decide) ?_
  refine aw_iload_n dJx4a65c_grow_92f84_6 rfl ?_
  refine aw_if_gt (tgt := 20) dJx4a65c_grow_92f84_7 (by decide) (fun h7 => absurd h7 (by decide)) (fun h7 => ?_)
  refine aw_aload_n dJx4a65c_grow_92f84_10 rfl ?_
  refine aw_get dJx4a65c_grow_92f84_11 fg_Jx4a65c_9_0 ha rfl ?_
  refine aw_gets0 dJx4a65c_grow_92f84_14 tw_81 ?_
  refine aw_acmp_eq (tgt := 45) dJx4a65c_grow_92f84_17 (by decide) (fun h17 => ?_) (fun h17 => ?_)
  · refine aw_aload_n dJx4a65c_grow_92f84_45 rfl ?_
    refine aw_bipush (v := 10) dJx4a65c_grow_92f84_46 (by decide) ?_
    refine aw_iload_n dJx4a65c_grow_92f84_48 rfl ?_
    refine aw_S2i (kc' := 1) (ks' := 10) dJx4a65c_grow_92f84_49 cs_Jx4a65c_79 j_max rfl (Nat.le_of_ble_eq_true rfl) (fun x49 M49 h49 => ?_)
    obtain ⟨rfl, e49⟩ := h49
    replace e49 := e49.symm
    subst e49
    rw [hn]
    refine aw_newq (kc := 0) (ks := 0) (N := 10) td dJx4a65c_grow_92f84_52 tw_290 (by decide) (by decide) (by decide) (fun d9 hd9 => ?_)
    refine aw_dup_x1 dJx4a65c_grow_92f84_55 rfl rfl ?_
    refine aw_put dJx4a65c_grow_92f84_56 fl_Jx4a65c_9_0 (ab_set_new hd9 ha) rfl rfl (Nat.le_of_ble_eq_true rfl) ?_
    exact aw_rret dJx4a65c_grow_92f84_59 rfl (Or.inr ⟨_, rfl⟩) ⟨hd9, rfl⟩
  · exact absurd rfl h17
set_option maxRecDepth 100000 in
set_option maxHeartbeats 4000000 in
theorem j_grow {l : Launch} {g : ab_G} {M : ab_M} (td : Nat × Nat) {a : Nat} {t : Nat × Nat} {v0 : Value} (ha : M a = some (t, .inr (0, [v0, .ref (ab_e0 g), .int 0]))) : AM l g Y_Jx4a65c_grow_d5877 2 44 1 10 [.ref a] M (ab_Qr (fun d M' => M d = none ∧ M' = ab_set (ab_set M d td (ab_aq g 10 (fun _ => none))) a t (.inr (0, [v0, .ref d, .int 0])))) := by
  refine AM.of [some (.ref a)] (by decide +kernel) (Nat.le_of_ble_eq_true rfl) rfl ?_
  refine aw_aload_n dJx4a65c_grow_d5877_0 rfl ?_
  refine aw_aload_n dJx4a65c_grow_d5877_1 rfl ?_
  refine aw_get dJx4a65c_grow_d5877_2 fg_Jx4a65c_48_0 ha rfl ?_
  refine aw_iconst (v := 1) dJx4a65c_grow_d5877_5 (by decide) ?_
  refine aw_iadd dJx4a65c_grow_d5877_6 ?_
  refine aw_V1r (kc' := 0) (ks' := 0) dJx4a65c_grow_d5877_7 cs_Jx4a65c_69_0 ha (j_growI td ha (by decide)) rfl (Nat.le_of_ble_eq_true rfl) (fun x7 M7 h7 => ?_)
  exact aw_rret dJx4a65c_grow_d5877_10 rfl (Or.inr ⟨_, rfl⟩) h7
set_option maxRecDepth 100000 in
set_option maxHeartbeats 4000000 in
theorem j_add3E {l : Launch} {g : ab_G} {M : ab_M} (td : Nat × Nat) {a x ci : Nat} {t tx : Nat × Nat} {v0 : Value} {fs : List Value} {r : vw_C} (ht : t ≠ td) (ha : M a = some (t, .inr (0, [v0, .ref (ab_e0 g), .int 0]))) (hx : M x = some (tx, .inr (ci, fs))) (htx : tx ≠ t) (hr : vwCl[ci]? = some r) (hca : Cond.castable r.1 "java/lang/Object" ∈ ab_nest) : AM l g Y_Jx4a65c_add_72be8 3 64 1 10 [.ref a, .ref x, .ref (ab_e0 g), .int 0] M (ab_Qv (fun M' => ∃ d, M d = none ∧ M' d = some (td, ab_aq g 10 (va_up (fun _ => none) 0 (some x))) ∧ M' a = some (t, .inr (0, [v0, .ref d, .int 1])) ∧ KT (fun q => q = t) M M')) := by
  refine AM.of [some (.ref a), some (.ref x), some (.ref (ab_e0 g)), some (.int 0)] (by decide +kernel) (Nat.le_of_ble_eq_true rfl) rfl ?_
  have hin : vp_in (0 : Int32) 10 := by unfold vp_in; decide
  refine aw_iload_n dJx4a65c_add_72be8_0 rfl ?_
  refine aw_aload_n dJx4a65c_add_72be8_1 rfl ?_
  refine aw_alen0 dJx4a65c_add_72be8_2 ?_
  refine aw_icmp_ne (tgt := 11) dJx4a65c_add_72be8_3 (by decide) (fun h3 => absurd rfl h3) (fun h3 => ?_)
  refine aw_aload_n dJx4a65c_add_72be8_6 rfl ?_
  refine aw_V0r (kc' := 0) (ks' := 0) dJx4a65c_add_72be8_7 cs_Jx4a65c_129_0 ha (j_grow td ha) rfl (Nat.le_of_ble_eq_true rfl) (fun x7 M7 h7 => ?_)
  obtain ⟨hd0, rfl⟩ := h7
  have ha2 := ab_set_new (t := td) (e := ab_aq g 10 (fun _ => none)) hd0 ha
  have hda := ab_set_tag (e := .inr (0, [v0, .ref x7, .int 0])) ha2 ab_set_self (Ne.symm ht)
  have hx2 := ab_set_tag (e := .inr (0, [v0, .ref x7, .int 0])) ha2 (ab_set_new (t := td) (e := ab_aq g 10 (fun _ => none)) hd0 hx) htx
  refine aw_astore_n dJx4a65c_add_72be8_10 rfl (by decide) ?_
  refine aw_aload_n dJx4a65c_add_72be8_11 rfl ?_
  refine aw_iload_n dJx4a65c_add_72be8_12 rfl ?_
  refine aw_aload_n dJx4a65c_add_72be8_13 rfl ?_
  refine aw_aast dJx4a65c_add_72be8_14 hda hx2 hr hca hin ?_
  have ha3 := ab_set_tag (e := ab_aq g 10 (va_up (fun _ => none) (0 : Int32).toNatClampNeg (some x))) hda ab_set_self ht
  refine aw_aload_n dJx4a65c_add_72be8_15 rfl ?_
  refine aw_iload_n dJx4a65c_add_72be8_16 rfl ?_
  refine aw_iconst (v := 1) dJx4a65c_add_72be8_17 (by decide) ?_
  refine aw_iadd dJx4a65c_add_72be8_18 ?_
  refine aw_put dJx4a65c_add_72be8_19 fl_Jx4a65c_48_0 ha3 rfl rfl (Nat.le_of_ble_eq_true rfl) ?_
  exact aw_vret dJx4a65c_add_72be8_22 rfl ⟨x7, hd0, ab_set_tag ha3 ab_set_self (Ne.symm ht), ab_set_self, fun b t2 e2 hb h2 => by
      have q2 := ab_set_tag (e := .inr (0, [v0, .ref x7, .int 0])) ha2 (ab_set_new (t := td) (e := ab_aq g 10 (fun _ => none)) hd0 hb) h2
      refine ab_set_tag ha3 ?_ h2
      rw [ab_set_ne (fun e => by rw [e] at hb; rw [hb] at hd0; cases hd0)]
      exact q2⟩
set_option maxRecDepth 100000 in
set_option maxHeartbeats 4000000 in
theorem j_addE {l : Launch} {g : ab_G} {M : ab_M} (td : Nat × Nat) {a x : Nat} {t tx : Nat × Nat} (ht : t ≠ td) (hL : LE g M a t) (hx : aO M x tx) (htx : tx ≠ t) : AM l g Y_Jx4a65c_add_9ea2d 4 87 1 10 [.ref a, .ref x] M (ab_Qi (fun y M' => y = 1 ∧ LG g M' a t td [x] ∧ KT (fun q => q = t) M M')) := by
  refine AM.of [some (.ref a), some (.ref x)] (by decide +kernel) (Nat.le_of_ble_eq_true rfl) rfl ?_
  obtain ⟨mc, ha⟩ := hL
  obtain ⟨ci, fs, r, hx, hr, hca⟩ := hx
  refine aw_aload_n dJx4a65c_add_9ea2d_0 rfl ?_
  refine aw_dup dJx4a65c_add_9ea2d_1 rfl ?_
  refine aw_get dJx4a65c_add_9ea2d_2 fg_Jx4a65c_63_0 ha rfl ?_
  refine aw_iconst (v := 1) dJx4a65c_add_9ea2d_5 (by decide) ?_
  refine aw_iadd dJx4a65c_add_9ea2d_6 ?_
  refine aw_put dJx4a65c_add_9ea2d_7 fl_Jx4a65c_63_0 ha rfl rfl (Nat.le_of_ble_eq_true rfl) ?_
  refine aw_aload_n dJx4a65c_add_9ea2d_10 rfl ?_
  refine aw_aload_n dJx4a65c_add_9ea2d_11 rfl ?_
  refine aw_aload_n dJx4a65c_add_9ea2d_12 rfl ?_
  refine aw_get dJx4a65c_add_9ea2d_13 fg_Jx4a65c_9_0 ab_set_self rfl ?_
  refine aw_aload_n dJx4a65c_add_9ea2d_16 rfl ?_
  refine aw_get dJx4a65c_add_9ea2d_17 fg_Jx4a65c_48_0 ab_set_self rfl ?_
  refine aw_V3v (kc' := 0) (ks' := 0) dJx4a65c_add_9ea2d_20 cs_Jx4a65c_131_0 ab_set_self (j_add3E td ht ab_set_self (ab_set_tag ha hx htx) htx hr hca) rfl (Nat.le_of_ble_eq_true rfl) (fun M20 h20 => ?_)
  obtain ⟨d, hd0, hd1, ha1, hK1⟩ := h20
  refine aw_iconst (v := 1) dJx4a65c_add_9ea2d_23 (by decide) ?_
  exact aw_zret dJx4a65c_add_9ea2d_24 rfl rfl ⟨rfl, ⟨mc + 1, d, _, ha1, hd1, fun i hi => by
        by_cases h : i = 0
        · subst h
          rfl
        · rw [va_up_ne _ _ h, List.getElem?_eq_none (by simp; omega)], by simp⟩, (KT.put (S := fun q => q = t) KT.rf ha rfl).tr hK1⟩
/-- the elements are objects that may lie in a row -/
def aOs (M : ab_M) (t td : Nat × Nat) (xs : List Nat) : Prop := ∀ x ∈ xs, ∃ tx : Nat × Nat, aO M x tx ∧ tx ≠ t ∧ tx ≠ td
theorem erase_f {xs : List Nat} {k : Nat} {f : Nat → Option Nat} (hk : k < xs.length) (hn : xs.length ≤ 10) (hf : ∀ i, i < 10 → f i = xs[i]?) : ∀ i, i < 10 → va_up (if xs.length - 1 ≤ k then f else va_cpy f f (k + 1) k (xs.length - 1 - k)) (xs.length - 1) none i = (xs.eraseIdx k)[i]? := by
  intro i hi
  rw [List.getElem?_eraseIdx]
  by_cases h1 : i = xs.length - 1
  · subst h1
    rw [va_up_self]
    split
    · omega
    · rw [List.getElem?_eq_none (by omega)]
  · rw [va_up_ne _ _ h1]
    split
    · next h2 =>
      have e : k = xs.length - 1 := by omega
      rw [hf i hi]
      split
      · rfl
      · rw [List.getElem?_eq_none (by omega), List.getElem?_eq_none (by omega)]
    · next h2 =>
      unfold va_cpy
      split
      · next h3 =>
        rw [if_neg (by omega), hf _ (by omega)]
        congr 1
        omega
      · next h3 =>
        rw [hf i hi]
        split
        · rfl
        · rw [List.getElem?_eq_none (by omega), List.getElem?_eq_none (by omega)]
set_option maxRecDepth 100000 in
set_option maxHeartbeats 4000000 in
theorem j_frem {l : Launch} {g : ab_G} {M : ab_M} {a d k : Nat} {t td : Nat × Nat} {xs : List Nat} {mc : Int32} {f : Nat → Option Nat} (ht : t ≠ td) (ha : M a = some (t, .inr (0, [.int mc, .ref d, .int (nI xs.length)]))) (hdd : M d = some (td, ab_aq g 10 f)) (hf : ∀ i, i < 10 → f i = xs[i]?) (hn : xs.length ≤ 10) (hk : k < xs.length) (hO : aOs M t td xs) : AM l g Y_Jx4a65c_fastRemove_b59b0 1 40 0 0 [.ref a, .ref d, .int (nI k)] M (ab_Qv (fun M' => LG g M' a t td (xs.eraseIdx k) ∧ KT (fun q => q = t ∨ q = td) M M')) := by
  refine AM.of [some (.ref a), some (.ref d), some (.int (nI k)), none] (by decide +kernel) (Nat.le_of_ble_eq_true rfl) rfl ?_
  have e0 : nI xs.length - 1 = nI (xs.length - 1) := by
    rw [show (1 : Int32) = nI 1 from rfl]
    exact pk_sub (by omega)
  have e1 : nI k + 1 = nI (k + 1) := nI_1 k
  have e2 : nI xs.length - 1 - nI k = nI (xs.length - 1 - k) ∨ xs.length - 1 ≤ k := by
    by_cases h : xs.length - 1 ≤ k
    · exact Or.inr h
    · rw [e0]
      exact Or.inl (pk_sub (by omega))
  have hlen : (xs.eraseIdx k).length = xs.length - 1 := by rw [List.length_eraseIdx]; simp [hk]
  have hin2 : vp_in (nI xs.length - 1) 10 := by rw [e0]; exact vp_in_nI (by omega) (by omega)
  have hd2 := ab_set_tag (e := .inr (0, [.int (mc + 1), .ref d, .int (nI xs.length)])) ha hdd (Ne.symm ht)
  refine aw_aload_n dJx4a65c_fastRemove_b59b0_0 rfl ?_
  refine aw_dup dJx4a65c_fastRemove_b59b0_1 rfl ?_
  refine aw_get dJx4a65c_fastRemove_b59b0_2 fg_Jx4a65c_63_0 ha rfl ?_
  refine aw_iconst (v := 1) dJx4a65c_fastRemove_b59b0_5 (by decide) ?_
  refine aw_iadd dJx4a65c_fastRemove_b59b0_6 ?_
  refine aw_put dJx4a65c_fastRemove_b59b0_7 fl_Jx4a65c_63_0 ha rfl rfl (Nat.le_of_ble_eq_true rfl) ?_
  refine aw_aload_n dJx4a65c_fastRemove_b59b0_10 rfl ?_
  refine aw_get dJx4a65c_fastRemove_b59b0_11 fg_Jx4a65c_48_0 ab_set_self rfl ?_
  refine aw_iconst (v := 1) dJx4a65c_fastRemove_b59b0_14 (by decide) ?_
  refine aw_isub dJx4a65c_fastRemove_b59b0_15 ?_
  refine aw_dup dJx4a65c_fastRemove_b59b0_16 rfl ?_
  refine aw_istore_n dJx4a65c_fastRemove_b59b0_17 rfl (by decide) ?_
  refine aw_iload_n dJx4a65c_fastRemove_b59b0_18 rfl ?_
  refine aw_icmp_le (tgt := 34) dJx4a65c_fastRemove_b59b0_19 (by decide) (fun h19 => ?_) (fun h19 => ?_)
  · have h19 : xs.length - 1 ≤ k := by rw [e0, nI_le_iff (by omega) (by omega)] at h19; exact h19
    refine aw_aload_n dJx4a65c_fastRemove_b59b0_34 rfl ?_
    refine aw_aload_n dJx4a65c_fastRemove_b59b0_35 rfl ?_
    refine aw_iload_n dJx4a65c_fastRemove_b59b0_36 rfl ?_
    refine aw_dup_x1 dJx4a65c_fastRemove_b59b0_37 rfl rfl ?_
    refine aw_put dJx4a65c_fastRemove_b59b0_38 fl_Jx4a65c_48_0 ab_set_self rfl rfl (Nat.le_of_ble_eq_true rfl) ?_
    refine aw_null dJx4a65c_fastRemove_b59b0_41 ?_
    refine aw_aastN dJx4a65c_fastRemove_b59b0_42 (ab_set_tag ab_set_self hd2 (Ne.symm ht)) hin2 ?_
    exact aw_vret dJx4a65c_fastRemove_b59b0_43 rfl (by
      have hff := erase_f (f := f) hk hn hf
      rw [if_pos h19] at hff
      refine ⟨⟨mc + 1, d, _, ?_, ab_set_self, fun i hi => by rw [e0, nI_cl (by omega)]; exact hff i hi, by rw [hlen]; omega⟩, ?_⟩
      · rw [hlen, ← e0]
        exact ab_set_tag (ab_set_tag ab_set_self hd2 (Ne.symm ht)) ab_set_self ht
      · exact ((KT.rf.put ha (Or.inl rfl)).put ab_set_self (Or.inl rfl)).put (ab_set_tag ab_set_self hd2 (Ne.symm ht)) (Or.inr rfl))
  · have h19 : ¬ xs.length - 1 ≤ k := by rw [e0, nI_le_iff (by omega) (by omega)] at h19; exact h19
    replace e2 := e2.resolve_right h19
    refine aw_aload_n dJx4a65c_fastRemove_b59b0_22 rfl ?_
    refine aw_iload_n dJx4a65c_fastRemove_b59b0_23 rfl ?_
    refine aw_iconst (v := 1) dJx4a65c_fastRemove_b59b0_24 (by decide) ?_
    refine aw_iadd dJx4a65c_fastRemove_b59b0_25 ?_
    refine aw_aload_n dJx4a65c_fastRemove_b59b0_26 rfl ?_
    refine aw_iload_n dJx4a65c_fastRemove_b59b0_27 rfl ?_
    refine aw_iload_n dJx4a65c_fastRemove_b59b0_28 rfl ?_
    refine aw_iload_n dJx4a65c_fastRemove_b59b0_29 rfl ?_
    refine aw_isub dJx4a65c_fastRemove_b59b0_30 ?_
    refine aw_arraycopy dJx4a65c_fastRemove_b59b0_31 tw_515 tw_288 tw_287 tw_53 (by decide) (Nat.le_of_ble_eq_true rfl) hd2 (by rw [e1]; exact nI_pos (by omega)) (nI_pos (by omega)) (by rw [e2]; exact nI_pos (by omega)) (by rw [e1, e2, nI_cl (by omega), nI_cl (by omega)]; omega) (by rw [e2, nI_cl (by omega), nI_cl (by omega)]; omega) (fun i hi x hx => ?_) ?_
    · have hx2 : x ∈ xs := by
        rw [e1, nI_cl (by omega)] at hx
        rw [e2, nI_cl (by omega)] at hi
        rw [hf _ (by omega)] at hx
        exact List.mem_of_getElem? hx
      obtain ⟨tx, ⟨ci, fs, r, q1, q2, q3⟩, q4, q5⟩ := hO x hx2
      exact ⟨tx, ci, fs, r, ab_set_tag ha q1 q4, q2, q3⟩
    rw [e1, e2, nI_cl (by omega), nI_cl (by omega), nI_cl (by omega)]
    have ha3 := ab_set_tag (e := ab_aq g 10 (va_cpy f f (k + 1) k (xs.length - 1 - k))) hd2 ab_set_self ht
    refine aw_aload_n dJx4a65c_fastRemove_b59b0_34 rfl ?_
    refine aw_aload_n dJx4a65c_fastRemove_b59b0_35 rfl ?_
    refine aw_iload_n dJx4a65c_fastRemove_b59b0_36 rfl ?_
    refine aw_dup_x1 dJx4a65c_fastRemove_b59b0_37 rfl rfl ?_
    refine aw_put dJx4a65c_fastRemove_b59b0_38 fl_Jx4a65c_48_0 ha3 rfl rfl (Nat.le_of_ble_eq_true rfl) ?_
    refine aw_null dJx4a65c_fastRemove_b59b0_41 ?_
    refine aw_aastN dJx4a65c_fastRemove_b59b0_42 (ab_set_tag ha3 ab_set_self (Ne.symm ht)) hin2 ?_
    exact aw_vret dJx4a65c_fastRemove_b59b0_43 rfl (by
      have hff := erase_f (f := f) hk hn hf
      rw [if_neg h19] at hff
      refine ⟨⟨mc + 1, d, _, ?_, ab_set_self, fun i hi => by rw [e0, nI_cl (by omega)]; exact hff i hi, by rw [hlen]; omega⟩, ?_⟩
      · rw [hlen, ← e0]
        exact ab_set_tag (ab_set_tag ha3 ab_set_self (Ne.symm ht)) ab_set_self ht
      · exact (((KT.rf.put ha (Or.inl rfl)).put hd2 (Or.inr rfl)).put ha3 (Or.inl rfl)).put (ab_set_tag ha3 ab_set_self (Ne.symm ht)) (Or.inr rfl))
set_option maxRecDepth 100000 in
set_option maxHeartbeats 4000000 in
theorem j_remove {l : Launch} {g : ab_G} {M : ab_M} {a x k : Nat} {t td : Nat × Nat} {xs : List Nat} (ht : t ≠ td) (hL : LG g M a t td xs) (hk : xs[k]? = some x) (hO : aOs M t td xs) : AM l g Y_Jx4a65c_remove_915e3 2 63 0 0 [.ref a, .int (nI k)] M (ab_Qr (fun y M' => y = x ∧ LG g M' a t td (xs.eraseIdx k) ∧ KT (fun q => q = t ∨ q = td) M M')) := by
  refine AM.of [some (.ref a), some (.int (nI k)), none, none] (by decide +kernel) (Nat.le_of_ble_eq_true rfl) rfl ?_
  obtain ⟨mc, d, f, ha, hdd, hf, hn⟩ := hL
  have hkl : k < xs.length := (List.getElem?_eq_some_iff.mp hk).1
  refine aw_iload_n dJx4a65c_remove_915e3_0 rfl ?_
  refine aw_aload_n dJx4a65c_remove_915e3_1 rfl ?_
  refine aw_get dJx4a65c_remove_915e3_2 fg_Jx4a65c_48_0 ha rfl ?_
  refine aw_S2i (kc' := 0) (ks' := 0) dJx4a65c_remove_915e3_5 cs_Jx4a65c_118 (j_chk (nI_pos (by omega)) (nI_lt hkl (by omega))) rfl (Nat.le_of_ble_eq_true rfl) (fun x5 M5 h5 => ?_)
  obtain ⟨rfl, e5⟩ := h5
  replace e5 := e5.symm
  subst e5
  refine aw_pop dJx4a65c_remove_915e3_8 rfl ?_
  refine aw_aload_n dJx4a65c_remove_915e3_9 rfl ?_
  refine aw_get dJx4a65c_remove_915e3_10 fg_Jx4a65c_9_0 ha rfl ?_
  refine aw_astore_n dJx4a65c_remove_915e3_13 rfl (by decide) ?_
  refine aw_aload_n dJx4a65c_remove_915e3_14 rfl ?_
  refine aw_iload_n dJx4a65c_remove_915e3_15 rfl ?_
  refine aw_aald dJx4a65c_remove_915e3_16 hdd (vp_in_nI (by omega) (by omega)) (show f (nI k).toNatClampNeg = some x by rw [nI_cl (by omega), hf k (by omega)]; exact hk) ?_
  refine aw_astore_n dJx4a65c_remove_915e3_17 rfl (by decide) ?_
  refine aw_aload_n dJx4a65c_remove_915e3_18 rfl ?_
  refine aw_aload_n dJx4a65c_remove_915e3_19 rfl ?_
  refine aw_iload_n dJx4a65c_remove_915e3_20 rfl ?_
  refine aw_V2v (kc' := 0) (ks' := 0) dJx4a65c_remove_915e3_21 cs_Jx4a65c_144_0 ha (j_frem ht ha hdd hf hn hkl hO) rfl (Nat.le_of_ble_eq_true rfl) (fun M21 h21 => ?_)
  refine aw_aload_n dJx4a65c_remove_915e3_24 rfl ?_
  exact aw_rret dJx4a65c_remove_915e3_25 rfl (Or.inl ⟨_, rfl⟩) ⟨rfl, h21⟩
