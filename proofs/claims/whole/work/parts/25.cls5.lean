/-! ===== constructors: Fountain; newMan ===== -/
set_option maxRecDepth 100000 in
set_option maxHeartbeats 4000000 in
theorem c_initF {l : Launch} {g : ab_G} {M : ab_M} (tl : Nat × Nat) {a : Nat} {t : Nat × Nat} {n w : Int32} (ha : M a = some (t, .inr (3, [.int 0, .int 0, .null, .int 0, .int 0, .int 0]))) : AM l g Y_X2_init 4 80 1 3 [.ref a, .int n, .int w] M (ab_Qv (fun M' => ∃ r, M r = none ∧ M' = ab_set (ab_set M r tl (.inr (0, [.int 0, .ref (ab_e0 g), .int 0]))) a t (.inr (3, [.int n, .int w, .ref r, .int 1, .int 0, .int 0])))) := by
  refine AM.of [some (.ref a), some (.int n), some (.int w)] (by decide +kernel) (Nat.le_of_ble_eq_true rfl) rfl ?_
  refine aw_aload_n dX2_init_0 rfl ?_
  refine aw_objInit dX2_init_1 tw_204 tw_67 tw_68 (by decide) (Nat.le_of_ble_eq_true rfl) ?_
  refine aw_aload_n dX2_init_4 rfl ?_
  refine aw_new (kc := 0) (ks := 0) tl [.int 0, .null, .int 0] dX2_init_5 cl_0 tw_205 tw_70 tw_44 (fun j hj => by rcases (show j = 0 ∨ j = 1 ∨ j = 2 by omega) with rfl | rfl | rfl <;> rfl) (fun r9 hr9 => ?_)
  refine aw_dup dX2_init_8 rfl ?_
  refine aw_I0v (kc' := 0) (ks' := 0) dX2_init_9 cs_X2_9 (j_init ab_set_self) rfl (Nat.le_of_ble_eq_true rfl) (fun M9 h9 => ?_)
  subst h9
  rw [ab_set_set]
  have ha2 := ab_set_new (t := tl) (e := .inr (0, [.int 0, .ref (ab_e0 g), .int 0])) hr9 ha
  generalize hM2 : ab_set M r9 tl (.inr (0, [.int 0, .ref (ab_e0 g), .int 0])) = M2 at *
  refine aw_putF dX2_init_12 fl_X2_10_3 rfl ha2 rfl rfl (Nat.le_of_ble_eq_true rfl) ?_
  show AW _ _ _ _ _ _ _ _ _ _ _ _ (ab_set M2 a t (.inr (3, [.int 0, .int 0, .ref r9, .int 0, .int 0, .int 0])))
  refine aw_aload_n dX2_init_15 rfl ?_
  refine aw_iconst (v := 1) dX2_init_16 (by decide) ?_
  refine aw_put dX2_init_17 fl_X2_16_3 ab_set_self rfl rfl (Nat.le_of_ble_eq_true rfl) ?_
  rw [ab_set_set]
  show AW _ _ _ _ _ _ _ _ _ _ _ _ (ab_set M2 a t (.inr (3, [.int 0, .int 0, .ref r9, .int 1, .int 0, .int 0])))
  refine aw_aload_n dX2_init_20 rfl ?_
  refine aw_iconst (v := 0) dX2_init_21 (by decide) ?_
  refine aw_put dX2_init_22 fl_X2_20_3 ab_set_self rfl rfl (Nat.le_of_ble_eq_true rfl) ?_
  rw [ab_set_set]
  show AW _ _ _ _ _ _ _ _ _ _ _ _ (ab_set M2 a t (.inr (3, [.int 0, .int 0, .ref r9, .int 1, .int 0, .int 0])))
  refine aw_aload_n dX2_init_25 rfl ?_
  refine aw_iconst (v := 0) dX2_init_26 (by decide) ?_
  refine aw_put dX2_init_27 fl_X2_24_3 ab_set_self rfl rfl (Nat.le_of_ble_eq_true rfl) ?_
  rw [ab_set_set]
  show AW _ _ _ _ _ _ _ _ _ _ _ _ (ab_set M2 a t (.inr (3, [.int 0, .int 0, .ref r9, .int 1, .int 0, .int 0])))
  refine aw_aload_n dX2_init_30 rfl ?_
  refine aw_iload_n dX2_init_31 rfl ?_
  refine aw_putF dX2_init_32 fl_X2_27_3 rfl ab_set_self rfl rfl (Nat.le_of_ble_eq_true rfl) ?_
  rw [ab_set_set]
  show AW _ _ _ _ _ _ _ _ _ _ _ _ (ab_set M2 a t (.inr (3, [.int n, .int 0, .ref r9, .int 1, .int 0, .int 0])))
  refine aw_aload_n dX2_init_35 rfl ?_
  refine aw_iload_n dX2_init_36 rfl ?_
  refine aw_putF dX2_init_37 fl_X2_30_3 rfl ab_set_self rfl rfl (Nat.le_of_ble_eq_true rfl) ?_
  rw [ab_set_set]
  show AW _ _ _ _ _ _ _ _ _ _ _ _ (ab_set M2 a t (.inr (3, [.int n, .int w, .ref r9, .int 1, .int 0, .int 0])))
  exact aw_vret dX2_init_40 rfl ⟨r9, hr9, by rw [hM2]⟩
def q_man (k : Nat) (n w : Int32) (fa ja : Nat) : va_E := if k = 0 then .inr (6, [.int n, .int w, .ref fa, .ref ja, .int 0, .int 0, .int 0, .int 0, .int 0, .int (-1), .int (-1), .int (-1)]) else if k = 1 then .inr (8, [.int n, .int w, .ref fa, .ref ja, .int 0, .int 0, .int 0, .int 0, .int 0, .int (-1), .int (-1), .int (-1)]) else .inr (1, [.int n, .int w, .ref fa, .ref ja, .int 0, .int 0, .int 0, .int 0, .int 0, .int (-1), .int (-1), .int (-1), .int 2])
set_option maxRecDepth 100000 in
set_option maxHeartbeats 4000000 in
theorem c_newMan0 {l : Launch} {g : ab_G} {M : ab_M} (tg : Nat × Nat) {fa ja : Nat} {n w : Int32} : AM l g Y_X8_newMan 4 92 1 13 [.int 0, .int n, .int w, .ref fa, .ref ja] M (ab_Qr (fun a M' => M a = none ∧ M' = ab_set M a tg (q_man 0 n w fa ja))) := by
  refine AM.of [some (.int 0), some (.int n), some (.int w), some (.ref fa), some (.ref ja)] (by decide +kernel) (Nat.le_of_ble_eq_true rfl) rfl ?_
  refine aw_iload_n dX8_newMan_0 rfl ?_
  refine aw_iconst (v := 2) dX8_newMan_1 (by decide) ?_
  refine aw_icmp_ne (tgt := 18) dX8_newMan_2 (by decide) (fun h2 => ?_) (fun h2 => absurd h2 (by decide))
  refine aw_iload_n dX8_newMan_18 rfl ?_
  refine aw_iconst (v := 1) dX8_newMan_19 (by decide) ?_
  refine aw_icmp_ne (tgt := 36) dX8_newMan_20 (by decide) (fun h20 => ?_) (fun h20 => absurd h20 (by decide))
  refine aw_new (kc := 0) (ks := 1) tg [.int 0, .int 0, .null, .null, .int 0, .int 0, .int 0, .int 0, .int 0, .int 0, .int 0, .int 0] dX8_newMan_36 cl_6 tw_449 tw_450 tw_57 (fun j hj => by rcases (show j = 0 ∨ j = 1 ∨ j = 2 ∨ j = 3 ∨ j = 4 ∨ j = 5 ∨ j = 6 ∨ j = 7 ∨ j = 8 ∨ j = 9 ∨ j = 10 ∨ j = 11 by omega) with rfl | rfl | rfl | rfl | rfl | rfl | rfl | rfl | rfl | rfl | rfl | rfl <;> rfl) (fun m9 hm9 => ?_)
  refine aw_dup dX8_newMan_39 rfl ?_
  refine aw_iload_n dX8_newMan_40 rfl ?_
  refine aw_iload_n dX8_newMan_41 rfl ?_
  refine aw_aload_n dX8_newMan_42 rfl ?_
  refine aw_aload dX8_newMan_43 rfl ?_
  refine aw_I4v (kc' := 0) (ks' := 1) dX8_newMan_45 cs_X8_229 (c_initM0 ab_set_self) rfl (Nat.le_of_ble_eq_true rfl) (fun M45 h45 => ?_)
  subst h45
  rw [ab_set_set]
  exact aw_rret dX8_newMan_48 rfl (Or.inl ⟨_, rfl⟩) ⟨hm9, rfl⟩
set_option maxRecDepth 100000 in
set_option maxHeartbeats 4000000 in
theorem c_newMan1 {l : Launch} {g : ab_G} {M : ab_M} (tg : Nat × Nat) {fa ja : Nat} {n w : Int32} : AM l g Y_X8_newMan 4 92 1 13 [.int 1, .int n, .int w, .ref fa, .ref ja] M (ab_Qr (fun a M' => M a = none ∧ M' = ab_set M a tg (q_man 1 n w fa ja))) := by
  refine AM.of [some (.int 1), some (.int n), some (.int w), some (.ref fa), some (.ref ja)] (by decide +kernel) (Nat.le_of_ble_eq_true rfl) rfl ?_
  refine aw_iload_n dX8_newMan_0 rfl ?_
  refine aw_iconst (v := 2) dX8_newMan_1 (by decide) ?_
  refine aw_icmp_ne (tgt := 18) dX8_newMan_2 (by decide) (fun h2 => ?_) (fun h2 => absurd h2 (by decide))
  refine aw_iload_n dX8_newMan_18 rfl ?_
  refine aw_iconst (v := 1) dX8_newMan_19 (by decide) ?_
  refine aw_icmp_ne (tgt := 36) dX8_newMan_20 (by decide) (fun h20 => absurd rfl h20) (fun h20 => ?_)
  refine aw_new (kc := 0) (ks := 1) tg [.int 0, .int 0, .null, .null, .int 0, .int 0, .int 0, .int 0, .int 0, .int 0, .int 0, .int 0] dX8_newMan_23 cl_8 tw_433 tw_434 tw_58 (fun j hj => by rcases (show j = 0 ∨ j = 1 ∨ j = 2 ∨ j = 3 ∨ j = 4 ∨ j = 5 ∨ j = 6 ∨ j = 7 ∨ j = 8 ∨ j = 9 ∨ j = 10 ∨ j = 11 by omega) with rfl | rfl | rfl | rfl | rfl | rfl | rfl | rfl | rfl | rfl | rfl | rfl <;> rfl) (fun m9 hm9 => ?_)
  refine aw_dup dX8_newMan_26 rfl ?_
  refine aw_iload_n dX8_newMan_27 rfl ?_
  refine aw_iload_n dX8_newMan_28 rfl ?_
  refine aw_aload_n dX8_newMan_29 rfl ?_
  refine aw_aload dX8_newMan_30 rfl ?_
  refine aw_I4v (kc' := 0) (ks' := 1) dX8_newMan_32 cs_X8_228 (c_initS1 ab_set_self) rfl (Nat.le_of_ble_eq_true rfl) (fun M32 h32 => ?_)
  subst h32
  rw [ab_set_set]
  exact aw_rret dX8_newMan_35 rfl (Or.inl ⟨_, rfl⟩) ⟨hm9, rfl⟩
set_option maxRecDepth 100000 in
set_option maxHeartbeats 4000000 in
theorem c_newMan2 {l : Launch} {g : ab_G} {M : ab_M} (tg : Nat × Nat) {fa ja : Nat} {n w : Int32} : AM l g Y_X8_newMan 4 92 1 13 [.int 2, .int n, .int w, .ref fa, .ref ja] M (ab_Qr (fun a M' => M a = none ∧ M' = ab_set M a tg (q_man 2 n w fa ja))) := by
  refine AM.of [some (.int 2), some (.int n), some (.int w), some (.ref fa), some (.ref ja)] (by decide +kernel) (Nat.le_of_ble_eq_true rfl) rfl ?_
  refine aw_iload_n dX8_newMan_0 rfl ?_
  refine aw_iconst (v := 2) dX8_newMan_1 (by decide) ?_
  refine aw_icmp_ne (tgt := 18) dX8_newMan_2 (by decide) (fun h2 => absurd rfl h2) (fun h2 => ?_)
  refine aw_new (kc := 0) (ks := 0) tg [.int 0, .int 0, .null, .null, .int 0, .int 0, .int 0, .int 0, .int 0, .int 0, .int 0, .int 0, .int 0] dX8_newMan_5 cl_1 tw_364 tw_365 tw_59 (fun j hj => by rcases (show j = 0 ∨ j = 1 ∨ j = 2 ∨ j = 3 ∨ j = 4 ∨ j = 5 ∨ j = 6 ∨ j = 7 ∨ j = 8 ∨ j = 9 ∨ j = 10 ∨ j = 11 ∨ j = 12 by omega) with rfl | rfl | rfl | rfl | rfl | rfl | rfl | rfl | rfl | rfl | rfl | rfl | rfl <;> rfl) (fun m9 hm9 => ?_)
  refine aw_dup dX8_newMan_8 rfl ?_
  refine aw_iload_n dX8_newMan_9 rfl ?_
  refine aw_iload_n dX8_newMan_10 rfl ?_
  refine aw_aload_n dX8_newMan_11 rfl ?_
  refine aw_aload dX8_newMan_12 rfl ?_
  refine aw_I4v (kc' := 0) (ks' := 0) dX8_newMan_14 cs_X8_223 (c_initD ab_set_self) rfl (Nat.le_of_ble_eq_true rfl) (fun M14 h14 => ?_)
  subst h14
  rw [ab_set_set]
  exact aw_rret dX8_newMan_17 rfl (Or.inl ⟨_, rfl⟩) ⟨hm9, rfl⟩
