/-! ===== constructors: Man, Strong, Donkey, Jar ===== -/
set_option maxRecDepth 100000 in
set_option maxHeartbeats 4000000 in
theorem c_initM0 {l : Launch} {g : ab_G} {M : ab_M} {a fa ja : Nat} {t : Nat × Nat} {n w : Int32} (ha : M a = some (t, .inr (6, [.int 0, .int 0, .null, .null, .int 0, .int 0, .int 0, .int 0, .int 0, .int 0, .int 0, .int 0]))) : AM l g Y_X5_init 1 20 0 0 [.ref a, .int n, .int w, .ref fa, .ref ja] M (ab_Qv (fun M' => M' = ab_set M a t (.inr (6, [.int n, .int w, .ref fa, .ref ja, .int 0, .int 0, .int 0, .int 0, .int 0, .int (-1), .int (-1), .int (-1)])))) := by
  refine AM.of [some (.ref a), some (.int n), some (.int w), some (.ref fa), some (.ref ja)] (by decide +kernel) (Nat.le_of_ble_eq_true rfl) rfl ?_
  refine aw_aload_n dX5_init_0 rfl ?_
  refine aw_objInit dX5_init_1 tw_375 tw_67 tw_68 (by decide) (Nat.le_of_ble_eq_true rfl) ?_
  refine aw_aload_n dX5_init_4 rfl ?_
  refine aw_iconst (v := 0) dX5_init_5 (by decide) ?_
  refine aw_put dX5_init_6 fl_X5_9_6 ha rfl rfl (Nat.le_of_ble_eq_true rfl) ?_
  show AW _ _ _ _ _ _ _ _ _ _ _ _ (ab_set M a t (.inr (6, [.int 0, .int 0, .null, .null, .int 0, .int 0, .int 0, .int 0, .int 0, .int 0, .int 0, .int 0])))
  refine aw_aload_n dX5_init_9 rfl ?_
  refine aw_iconst (v := 0) dX5_init_10 (by decide) ?_
  refine aw_put dX5_init_11 fl_X5_15_6 ab_set_self rfl rfl (Nat.le_of_ble_eq_true rfl) ?_
  rw [ab_set_set]
  show AW _ _ _ _ _ _ _ _ _ _ _ _ (ab_set M a t (.inr (6, [.int 0, .int 0, .null, .null, .int 0, .int 0, .int 0, .int 0, .int 0, .int 0, .int 0, .int 0])))
  refine aw_aload_n dX5_init_14 rfl ?_
  refine aw_iconst (v := 0) dX5_init_15 (by decide) ?_
  refine aw_put dX5_init_16 fl_X5_18_6 ab_set_self rfl rfl (Nat.le_of_ble_eq_true rfl) ?_
  rw [ab_set_set]
  show AW _ _ _ _ _ _ _ _ _ _ _ _ (ab_set M a t (.inr (6, [.int 0, .int 0, .null, .null, .int 0, .int 0, .int 0, .int 0, .int 0, .int 0, .int 0, .int 0])))
  refine aw_aload_n dX5_init_19 rfl ?_
  refine aw_iconst (v := 0) dX5_init_20 (by decide) ?_
  refine aw_put dX5_init_21 fl_X5_21_6 ab_set_self rfl rfl (Nat.le_of_ble_eq_true rfl) ?_
  rw [ab_set_set]
  show AW _ _ _ _ _ _ _ _ _ _ _ _ (ab_set M a t (.inr (6, [.int 0, .int 0, .null, .null, .int 0, .int 0, .int 0, .int 0, .int 0, .int 0, .int 0, .int 0])))
  refine aw_aload_n dX5_init_24 rfl ?_
  refine aw_iconst (v := 0) dX5_init_25 (by decide) ?_
  refine aw_put dX5_init_26 fl_X5_24_6 ab_set_self rfl rfl (Nat.le_of_ble_eq_true rfl) ?_
  rw [ab_set_set]
  show AW _ _ _ _ _ _ _ _ _ _ _ _ (ab_set M a t (.inr (6, [.int 0, .int 0, .null, .null, .int 0, .int 0, .int 0, .int 0, .int 0, .int 0, .int 0, .int 0])))
  refine aw_aload_n dX5_init_29 rfl ?_
  refine aw_iconst (v := -1) dX5_init_30 (by decide) ?_
  refine aw_put dX5_init_31 fl_X5_27_6 ab_set_self rfl rfl (Nat.le_of_ble_eq_true rfl) ?_
  rw [ab_set_set]
  show AW _ _ _ _ _ _ _ _ _ _ _ _ (ab_set M a t (.inr (6, [.int 0, .int 0, .null, .null, .int 0, .int 0, .int 0, .int 0, .int 0, .int (-1), .int 0, .int 0])))
  refine aw_aload_n dX5_init_34 rfl ?_
  refine aw_iconst (v := -1) dX5_init_35 (by decide) ?_
  refine aw_put dX5_init_36 fl_X5_30_6 ab_set_self rfl rfl (Nat.le_of_ble_eq_true rfl) ?_
  rw [ab_set_set]
  show AW _ _ _ _ _ _ _ _ _ _ _ _ (ab_set M a t (.inr (6, [.int 0, .int 0, .null, .null, .int 0, .int 0, .int 0, .int 0, .int 0, .int (-1), .int (-1), .int 0])))
  refine aw_aload_n dX5_init_39 rfl ?_
  refine aw_iconst (v := -1) dX5_init_40 (by decide) ?_
  refine aw_put dX5_init_41 fl_X5_33_6 ab_set_self rfl rfl (Nat.le_of_ble_eq_true rfl) ?_
  rw [ab_set_set]
  show AW _ _ _ _ _ _ _ _ _ _ _ _ (ab_set M a t (.inr (6, [.int 0, .int 0, .null, .null, .int 0, .int 0, .int 0, .int 0, .int 0, .int (-1), .int (-1), .int (-1)])))
  refine aw_aload_n dX5_init_44 rfl ?_
  refine aw_iload_n dX5_init_45 rfl ?_
  refine aw_putF dX5_init_46 fl_X5_36_6 rfl ab_set_self rfl rfl (Nat.le_of_ble_eq_true rfl) ?_
  rw [ab_set_set]
  show AW _ _ _ _ _ _ _ _ _ _ _ _ (ab_set M a t (.inr (6, [.int n, .int 0, .null, .null, .int 0, .int 0, .int 0, .int 0, .int 0, .int (-1), .int (-1), .int (-1)])))
  refine aw_aload_n dX5_init_49 rfl ?_
  refine aw_iload_n dX5_init_50 rfl ?_
  refine aw_putF dX5_init_51 fl_X5_39_6 rfl ab_set_self rfl rfl (Nat.le_of_ble_eq_true rfl) ?_
  rw [ab_set_set]
  show AW _ _ _ _ _ _ _ _ _ _ _ _ (ab_set M a t (.inr (6, [.int n, .int w, .null, .null, .int 0, .int 0, .int 0, .int 0, .int 0, .int (-1), .int (-1), .int (-1)])))
  refine aw_aload_n dX5_init_54 rfl ?_
  refine aw_aload_n dX5_init_55 rfl ?_
  refine aw_put dX5_init_56 fl_X5_42_6 ab_set_self rfl rfl (Nat.le_of_ble_eq_true rfl) ?_
  rw [ab_set_set]
  show AW _ _ _ _ _ _ _ _ _ _ _ _ (ab_set M a t (.inr (6, [.int n, .int w, .ref fa, .null, .int 0, .int 0, .int 0, .int 0, .int 0, .int (-1), .int (-1), .int (-1)])))
  refine aw_aload_n dX5_init_59 rfl ?_
  refine aw_aload dX5_init_60 rfl ?_
  refine aw_put dX5_init_62 fl_X5_46_6 ab_set_self rfl rfl (Nat.le_of_ble_eq_true rfl) ?_
  rw [ab_set_set]
  show AW _ _ _ _ _ _ _ _ _ _ _ _ (ab_set M a t (.inr (6, [.int n, .int w, .ref fa, .ref ja, .int 0, .int 0, .int 0, .int 0, .int 0, .int (-1), .int (-1), .int (-1)])))
  exact aw_vret dX5_init_65 rfl rfl
set_option maxRecDepth 100000 in
set_option maxHeartbeats 4000000 in
theorem c_initM1 {l : Launch} {g : ab_G} {M : ab_M} {a fa ja : Nat} {t : Nat × Nat} {n w : Int32} (ha : M a = some (t, .inr (8, [.int 0, .int 0, .null, .null, .int 0, .int 0, .int 0, .int 0, .int 0, .int 0, .int 0, .int 0]))) : AM l g Y_X5_init 1 20 0 0 [.ref a, .int n, .int w, .ref fa, .ref ja] M (ab_Qv (fun M' => M' = ab_set M a t (.inr (8, [.int n, .int w, .ref fa, .ref ja, .int 0, .int 0, .int 0, .int 0, .int 0, .int (-1), .int (-1), .int (-1)])))) := by
  refine AM.of [some (.ref a), some (.int n), some (.int w), some (.ref fa), some (.ref ja)] (by decide +kernel) (Nat.le_of_ble_eq_true rfl) rfl ?_
  refine aw_aload_n dX5_init_0 rfl ?_
  refine aw_objInit dX5_init_1 tw_375 tw_67 tw_68 (by decide) (Nat.le_of_ble_eq_true rfl) ?_
  refine aw_aload_n dX5_init_4 rfl ?_
  refine aw_iconst (v := 0) dX5_init_5 (by decide) ?_
  refine aw_put dX5_init_6 fl_X5_9_8 ha rfl rfl (Nat.le_of_ble_eq_true rfl) ?_
  show AW _ _ _ _ _ _ _ _ _ _ _ _ (ab_set M a t (.inr (8, [.int 0, .int 0, .null, .null, .int 0, .int 0, .int 0, .int 0, .int 0, .int 0, .int 0, .int 0])))
  refine aw_aload_n dX5_init_9 rfl ?_
  refine aw_iconst (v := 0) dX5_init_10 (by decide) ?_
  refine aw_put dX5_init_11 fl_X5_15_8 ab_set_self rfl rfl (Nat.le_of_ble_eq_true rfl) ?_
  rw [ab_set_set]
  show AW _ _ _ _ _ _ _ _ _ _ _ _ (ab_set M a t (.inr (8, [.int 0, .int 0, .null, .null, .int 0, .int 0, .int 0, .int 0, .int 0, .int 0, .int 0, .int 0])))
  refine aw_aload_n dX5_init_14 rfl ?_
  refine aw_iconst (v := 0) dX5_init_15 (by decide) ?_
  refine aw_put dX5_init_16 fl_X5_18_8 ab_set_self rfl rfl (Nat.le_of_ble_eq_true rfl) ?_
  rw [ab_set_set]
  show AW _ _ _ _ _ _ _ _ _ _ _ _ (ab_set M a t (.inr (8, [.int 0, .int 0, .null, .null, .int 0, .int 0, .int 0, .int 0, .int 0, .int 0, .int 0, .int 0])))
  refine aw_aload_n dX5_init_19 rfl ?_
  refine aw_iconst (v := 0) dX5_init_20 (by decide) ?_
  refine aw_put dX5_init_21 fl_X5_21_8 ab_set_self rfl rfl (Nat.le_of_ble_eq_true rfl) ?_
  rw [ab_set_set]
  show AW _ _ _ _ _ _ _ _ _ _ _ _ (ab_set M a t (.inr (8, [.int 0, .int 0, .null, .null, .int 0, .int 0, .int 0, .int 0, .int 0, .int 0, .int 0, .int 0])))
  refine aw_aload_n dX5_init_24 rfl ?_
  refine aw_iconst (v := 0) dX5_init_25 (by decide) ?_
  refine aw_put dX5_init_26 fl_X5_24_8 ab_set_self rfl rfl (Nat.le_of_ble_eq_true rfl) ?_
  rw [ab_set_set]
  show AW _ _ _ _ _ _ _ _ _ _ _ _ (ab_set M a t (.inr (8, [.int 0, .int 0, .null, .null, .int 0, .int 0, .int 0, .int 0, .int 0, .int 0, .int 0, .int 0])))
  refine aw_aload_n dX5_init_29 rfl ?_
  refine aw_iconst (v := -1) dX5_init_30 (by decide) ?_
  refine aw_put dX5_init_31 fl_X5_27_8 ab_set_self rfl rfl (Nat.le_of_ble_eq_true rfl) ?_
  rw [ab_set_set]
  show AW _ _ _ _ _ _ _ _ _ _ _ _ (ab_set M a t (.inr (8, [.int 0, .int 0, .null, .null, .int 0, .int 0, .int 0, .int 0, .int 0, .int (-1), .int 0, .int 0])))
  refine aw_aload_n dX5_init_34 rfl ?_
  refine aw_iconst (v := -1) dX5_init_35 (by decide) ?_
  refine aw_put dX5_init_36 fl_X5_30_8 ab_set_self rfl rfl (Nat.le_of_ble_eq_true rfl) ?_
  rw [ab_set_set]
  show AW _ _ _ _ _ _ _ _ _ _ _ _ (ab_set M a t (.inr (8, [.int 0, .int 0, .null, .null, .int 0, .int 0, .int 0, .int 0, .int 0, .int (-1), .int (-1), .int 0])))
  refine aw_aload_n dX5_init_39 rfl ?_
  refine aw_iconst (v := -1) dX5_init_40 (by decide) ?_
  refine aw_put dX5_init_41 fl_X5_33_8 ab_set_self rfl rfl (Nat.le_of_ble_eq_true rfl) ?_
  rw [ab_set_set]
  show AW _ _ _ _ _ _ _ _ _ _ _ _ (ab_set M a t (.inr (8, [.int 0, .int 0, .null, .null, .int 0, .int 0, .int 0, .int 0, .int 0, .int (-1), .int (-1), .int (-1)])))
  refine aw_aload_n dX5_init_44 rfl ?_
  refine aw_iload_n dX5_init_45 rfl ?_
  refine aw_putF dX5_init_46 fl_X5_36_8 rfl ab_set_self rfl rfl (Nat.le_of_ble_eq_true rfl) ?_
  rw [ab_set_set]
  show AW _ _ _ _ _ _ _ _ _ _ _ _ (ab_set M a t (.inr (8, [.int n, .int 0, .null, .null, .int 0, .int 0, .int 0, .int 0, .int 0, .int (-1), .int (-1), .int (-1)])))
  refine aw_aload_n dX5_init_49 rfl ?_
  refine aw_iload_n dX5_init_50 rfl ?_
  refine aw_putF dX5_init_51 fl_X5_39_8 rfl ab_set_self rfl rfl (Nat.le_of_ble_eq_true rfl) ?_
  rw [ab_set_set]
  show AW _ _ _ _ _ _ _ _ _ _ _ _ (ab_set M a t (.inr (8, [.int n, .int w, .null, .null, .int 0, .int 0, .int 0, .int 0, .int 0, .int (-1), .int (-1), .int (-1)])))
  refine aw_aload_n dX5_init_54 rfl ?_
  refine aw_aload_n dX5_init_55 rfl ?_
  refine aw_put dX5_init_56 fl_X5_42_8 ab_set_self rfl rfl (Nat.le_of_ble_eq_true rfl) ?_
  rw [ab_set_set]
  show AW _ _ _ _ _ _ _ _ _ _ _ _ (ab_set M a t (.inr (8, [.int n, .int w, .ref fa, .null, .int 0, .int 0, .int 0, .int 0, .int 0, .int (-1), .int (-1), .int (-1)])))
  refine aw_aload_n dX5_init_59 rfl ?_
  refine aw_aload dX5_init_60 rfl ?_
  refine aw_put dX5_init_62 fl_X5_46_8 ab_set_self rfl rfl (Nat.le_of_ble_eq_true rfl) ?_
  rw [ab_set_set]
  show AW _ _ _ _ _ _ _ _ _ _ _ _ (ab_set M a t (.inr (8, [.int n, .int w, .ref fa, .ref ja, .int 0, .int 0, .int 0, .int 0, .int 0, .int (-1), .int (-1), .int (-1)])))
  exact aw_vret dX5_init_65 rfl rfl
set_option maxRecDepth 100000 in
set_option maxHeartbeats 4000000 in
theorem c_initS1 {l : Launch} {g : ab_G} {M : ab_M} {a fa ja : Nat} {t : Nat × Nat} {n w : Int32} (ha : M a = some (t, .inr (8, [.int 0, .int 0, .null, .null, .int 0, .int 0, .int 0, .int 0, .int 0, .int 0, .int 0, .int 0]))) : AM l g Y_X7_init 2 44 0 0 [.ref a, .int n, .int w, .ref fa, .ref ja] M (ab_Qv (fun M' => M' = ab_set M a t (.inr (8, [.int n, .int w, .ref fa, .ref ja, .int 0, .int 0, .int 0, .int 0, .int 0, .int (-1), .int (-1), .int (-1)])))) := by
  refine AM.of [some (.ref a), some (.int n), some (.int w), some (.ref fa), some (.ref ja)] (by decide +kernel) (Nat.le_of_ble_eq_true rfl) rfl ?_
  refine aw_aload_n dX7_init_0 rfl ?_
  refine aw_iload_n dX7_init_1 rfl ?_
  refine aw_iload_n dX7_init_2 rfl ?_
  refine aw_aload_n dX7_init_3 rfl ?_
  refine aw_aload dX7_init_4 rfl ?_
  refine aw_I4v (kc' := 0) (ks' := 0) dX7_init_6 cs_X7_3 (c_initM1 ha) rfl (Nat.le_of_ble_eq_true rfl) (fun M6 h6 => ?_)
  exact aw_vret dX7_init_9 rfl h6
set_option maxRecDepth 100000 in
set_option maxHeartbeats 4000000 in
theorem c_initM2 {l : Launch} {g : ab_G} {M : ab_M} {a fa ja : Nat} {t : Nat × Nat} {n w : Int32} (ha : M a = some (t, .inr (1, [.int 0, .int 0, .null, .null, .int 0, .int 0, .int 0, .int 0, .int 0, .int 0, .int 0, .int 0, .int 0]))) : AM l g Y_X5_init 1 20 0 0 [.ref a, .int n, .int w, .ref fa, .ref ja] M (ab_Qv (fun M' => M' = ab_set M a t (.inr (1, [.int n, .int w, .ref fa, .ref ja, .int 0, .int 0, .int 0, .int 0, .int 0, .int (-1), .int (-1), .int (-1), .int 0])))) := by
  refine AM.of [some (.ref a), some (.int n), some (.int w), some (.ref fa), some (.ref ja)] (by decide +kernel) (Nat.le_of_ble_eq_true rfl) rfl ?_
  refine aw_aload_n dX5_init_0 rfl ?_
  refine aw_objInit dX5_init_1 tw_375 tw_67 tw_68 (by decide) (Nat.le_of_ble_eq_true rfl) ?_
  refine aw_aload_n dX5_init_4 rfl ?_
  refine aw_iconst (v := 0) dX5_init_5 (by decide) ?_
  refine aw_put dX5_init_6 fl_X5_9_1 ha rfl rfl (Nat.le_of_ble_eq_true rfl) ?_
  show AW _ _ _ _ _ _ _ _ _ _ _ _ (ab_set M a t (.inr (1, [.int 0, .int 0, .null, .null, .int 0, .int 0, .int 0, .int 0, .int 0, .int 0, .int 0, .int 0, .int 0])))
  refine aw_aload_n dX5_init_9 rfl ?_
  refine aw_iconst (v := 0) dX5_init_10 (by decide) ?_
  refine aw_put dX5_init_11 fl_X5_15_1 ab_set_self rfl rfl (Nat.le_of_ble_eq_true rfl) ?_
  rw [ab_set_set]
  show AW _ _ _ _ _ _ _ _ _ _ _ _ (ab_set M a t (.inr (1, [.int 0, .int 0, .null, .null, .int 0, .int 0, .int 0, .int 0, .int 0, .int 0, .int 0, .int 0, .int 0])))
  refine aw_aload_n dX5_init_14 rfl ?_
  refine aw_iconst (v := 0) dX5_init_15 (by decide) ?_
  refine aw_put dX5_init_16 fl_X5_18_1 ab_set_self rfl rfl (Nat.le_of_ble_eq_true rfl) ?_
  rw [ab_set_set]
  show AW _ _ _ _ _ _ _ _ _ _ _ _ (ab_set M a t (.inr (1, [.int 0, .int 0, .null, .null, .int 0, .int 0, .int 0, .int 0, .int 0, .int 0, .int 0, .int 0, .int 0])))
  refine aw_aload_n dX5_init_19 rfl ?_
  refine aw_iconst (v := 0) dX5_init_20 (by decide) ?_
  refine aw_put dX5_init_21 fl_X5_21_1 ab_set_self rfl rfl (Nat.le_of_ble_eq_true rfl) ?_
  rw [ab_set_set]
  show AW _ _ _ _ _ _ _ _ _ _ _ _ (ab_set M a t (.inr (1, [.int 0, .int 0, .null, .null, .int 0, .int 0, .int 0, .int 0, .int 0, .int 0, .int 0, .int 0, .int 0])))
  refine aw_aload_n dX5_init_24 rfl ?_
  refine aw_iconst (v := 0) dX5_init_25 (by decide) ?_
  refine aw_put dX5_init_26 fl_X5_24_1 ab_set_self rfl rfl (Nat.le_of_ble_eq_true rfl) ?_
  rw [ab_set_set]
  show AW _ _ _ _ _ _ _ _ _ _ _ _ (ab_set M a t (.inr (1, [.int 0, .int 0, .null, .null, .int 0, .int 0, .int 0, .int 0, .int 0, .int 0, .int 0, .int 0, .int 0])))
  refine aw_aload_n dX5_init_29 rfl ?_
  refine aw_iconst (v := -1) dX5_init_30 (by decide) ?_
  refine aw_put dX5_init_31 fl_X5_27_1 ab_set_self rfl rfl (Nat.le_of_ble_eq_true rfl) ?_
  rw [ab_set_set]
  show AW _ _ _ _ _ _ _ _ _ _ _ _ (ab_set M a t (.inr (1, [.int 0, .int 0, .null, .null, .int 0, .int 0, .int 0, .int 0, .int 0, .int (-1), .int 0, .int 0, .int 0])))
  refine aw_aload_n dX5_init_34 rfl ?_
  refine aw_iconst (v := -1) dX5_init_35 (by decide) ?_
  refine aw_put dX5_init_36 fl_X5_30_1 ab_set_self rfl rfl (Nat.le_of_ble_eq_true rfl) ?_
  rw [ab_set_set]
  show AW _ _ _ _ _ _ _ _ _ _ _ _ (ab_set M a t (.inr (1, [.int 0, .int 0, .null, .null, .int 0, .int 0, .int 0, .int 0, .int 0, .int (-1), .int (-1), .int 0, .int 0])))
  refine aw_aload_n dX5_init_39 rfl ?_
  refine aw_iconst (v := -1) dX5_init_40 (by decide) ?_
  refine aw_put dX5_init_41 fl_X5_33_1 ab_set_self rfl rfl (Nat.le_of_ble_eq_true rfl) ?_
  rw [ab_set_set]
  show AW _ _ _ _ _ _ _ _ _ _ _ _ (ab_set M a t (.inr (1, [.int 0, .int 0, .null, .null, .int 0, .int 0, .int 0, .int 0, .int 0, .int (-1), .int (-1), .int (-1), .int 0])))
  refine aw_aload_n dX5_init_44 rfl ?_
  refine aw_iload_n dX5_init_45 rfl ?_
  refine aw_putF dX5_init_46 fl_X5_36_1 rfl ab_set_self rfl rfl (Nat.le_of_ble_eq_true rfl) ?_
  rw [ab_set_set]
  show AW _ _ _ _ _ _ _ _ _ _ _ _ (ab_set M a t (.inr (1, [.int n, .int 0, .null, .null, .int 0, .int 0, .int 0, .int 0, .int 0, .int (-1), .int (-1), .int (-1), .int 0])))
  refine aw_aload_n dX5_init_49 rfl ?_
  refine aw_iload_n dX5_init_50 rfl ?_
  refine aw_putF dX5_init_51 fl_X5_39_1 rfl ab_set_self rfl rfl (Nat.le_of_ble_eq_true rfl) ?_
  rw [ab_set_set]
  show AW _ _ _ _ _ _ _ _ _ _ _ _ (ab_set M a t (.inr (1, [.int n, .int w, .null, .null, .int 0, .int 0, .int 0, .int 0, .int 0, .int (-1), .int (-1), .int (-1), .int 0])))
  refine aw_aload_n dX5_init_54 rfl ?_
  refine aw_aload_n dX5_init_55 rfl ?_
  refine aw_put dX5_init_56 fl_X5_42_1 ab_set_self rfl rfl (Nat.le_of_ble_eq_true rfl) ?_
  rw [ab_set_set]
  show AW _ _ _ _ _ _ _ _ _ _ _ _ (ab_set M a t (.inr (1, [.int n, .int w, .ref fa, .null, .int 0, .int 0, .int 0, .int 0, .int 0, .int (-1), .int (-1), .int (-1), .int 0])))
  refine aw_aload_n dX5_init_59 rfl ?_
  refine aw_aload dX5_init_60 rfl ?_
  refine aw_put dX5_init_62 fl_X5_46_1 ab_set_self rfl rfl (Nat.le_of_ble_eq_true rfl) ?_
  rw [ab_set_set]
  show AW _ _ _ _ _ _ _ _ _ _ _ _ (ab_set M a t (.inr (1, [.int n, .int w, .ref fa, .ref ja, .int 0, .int 0, .int 0, .int 0, .int 0, .int (-1), .int (-1), .int (-1), .int 0])))
  exact aw_vret dX5_init_65 rfl rfl
set_option maxRecDepth 100000 in
set_option maxHeartbeats 4000000 in
theorem c_initS2 {l : Launch} {g : ab_G} {M : ab_M} {a fa ja : Nat} {t : Nat × Nat} {n w : Int32} (ha : M a = some (t, .inr (1, [.int 0, .int 0, .null, .null, .int 0, .int 0, .int 0, .int 0, .int 0, .int 0, .int 0, .int 0, .int 0]))) : AM l g Y_X7_init 2 44 0 0 [.ref a, .int n, .int w, .ref fa, .ref ja] M (ab_Qv (fun M' => M' = ab_set M a t (.inr (1, [.int n, .int w, .ref fa, .ref ja, .int 0, .int 0, .int 0, .int 0, .int 0, .int (-1), .int (-1), .int (-1), .int 0])))) := by
  refine AM.of [some (.ref a), some (.int n), some (.int w), some (.ref fa), some (.ref ja)] (by decide +kernel) (Nat.le_of_ble_eq_true rfl) rfl ?_
  refine aw_aload_n dX7_init_0 rfl ?_
  refine aw_iload_n dX7_init_1 rfl ?_
  refine aw_iload_n dX7_init_2 rfl ?_
  refine aw_aload_n dX7_init_3 rfl ?_
  refine aw_aload dX7_init_4 rfl ?_
  refine aw_I4v (kc' := 0) (ks' := 0) dX7_init_6 cs_X7_3 (c_initM2 ha) rfl (Nat.le_of_ble_eq_true rfl) (fun M6 h6 => ?_)
  exact aw_vret dX7_init_9 rfl h6
set_option maxRecDepth 100000 in
set_option maxHeartbeats 4000000 in
theorem c_initD {l : Launch} {g : ab_G} {M : ab_M} {a fa ja : Nat} {t : Nat × Nat} {n w : Int32} (ha : M a = some (t, .inr (1, [.int 0, .int 0, .null, .null, .int 0, .int 0, .int 0, .int 0, .int 0, .int 0, .int 0, .int 0, .int 0]))) : AM l g Y_X0_init 3 68 0 0 [.ref a, .int n, .int w, .ref fa, .ref ja] M (ab_Qv (fun M' => M' = ab_set M a t (.inr (1, [.int n, .int w, .ref fa, .ref ja, .int 0, .int 0, .int 0, .int 0, .int 0, .int (-1), .int (-1), .int (-1), .int 2])))) := by
  refine AM.of [some (.ref a), some (.int n), some (.int w), some (.ref fa), some (.ref ja)] (by decide +kernel) (Nat.le_of_ble_eq_true rfl) rfl ?_
  refine aw_aload_n dX0_init_0 rfl ?_
  refine aw_iload_n dX0_init_1 rfl ?_
  refine aw_iload_n dX0_init_2 rfl ?_
  refine aw_aload_n dX0_init_3 rfl ?_
  refine aw_aload dX0_init_4 rfl ?_
  refine aw_I4v (kc' := 0) (ks' := 0) dX0_init_6 cs_X0_3 (c_initS2 ha) rfl (Nat.le_of_ble_eq_true rfl) (fun M6 h6 => ?_)
  subst h6
  refine aw_aload_n dX0_init_9 rfl ?_
  refine aw_iconst (v := 2) dX0_init_10 (by decide) ?_
  refine aw_put dX0_init_11 fl_X0_9_1 ab_set_self rfl rfl (Nat.le_of_ble_eq_true rfl) ?_
  exact aw_vret dX0_init_14 rfl (by rw [ab_set_set]; rfl)
set_option maxRecDepth 100000 in
set_option maxHeartbeats 4000000 in
theorem c_initJ {l : Launch} {g : ab_G} {M : ab_M} {a p : Nat} {t : Nat × Nat} {n fl ho : Int32} (ha : M a = some (t, .inr (5, [.int 0, .int 0, .int 0, .null, .int 0, .int 0, .int 0]))) : AM l g Y_X4_init 1 20 0 0 [.ref a, .int n, .int fl, .int ho, .ref p] M (ab_Qv (fun M' => M' = ab_set M a t (.inr (5, [.int n, .int fl, .int ho, .ref p, .int 0, .int 0, .int 0])))) := by
  refine AM.of [some (.ref a), some (.int n), some (.int fl), some (.int ho), some (.ref p)] (by decide +kernel) (Nat.le_of_ble_eq_true rfl) rfl ?_
  refine aw_aload_n dX4_init_0 rfl ?_
  refine aw_objInit dX4_init_1 tw_300 tw_67 tw_68 (by decide) (Nat.le_of_ble_eq_true rfl) ?_
  refine aw_aload_n dX4_init_4 rfl ?_
  refine aw_iconst (v := 0) dX4_init_5 (by decide) ?_
  refine aw_put dX4_init_6 fl_X4_7_5 ha rfl rfl (Nat.le_of_ble_eq_true rfl) ?_
  show AW _ _ _ _ _ _ _ _ _ _ _ _ (ab_set M a t (.inr (5, [.int 0, .int 0, .int 0, .null, .int 0, .int 0, .int 0])))
  refine aw_aload_n dX4_init_9 rfl ?_
  refine aw_iconst (v := 0) dX4_init_10 (by decide) ?_
  refine aw_put dX4_init_11 fl_X4_13_5 ab_set_self rfl rfl (Nat.le_of_ble_eq_true rfl) ?_
  rw [ab_set_set]
  show AW _ _ _ _ _ _ _ _ _ _ _ _ (ab_set M a t (.inr (5, [.int 0, .int 0, .int 0, .null, .int 0, .int 0, .int 0])))
  refine aw_aload_n dX4_init_14 rfl ?_
  refine aw_iconst (v := 0) dX4_init_15 (by decide) ?_
  refine aw_put dX4_init_16 fl_X4_16_5 ab_set_self rfl rfl (Nat.le_of_ble_eq_true rfl) ?_
  rw [ab_set_set]
  show AW _ _ _ _ _ _ _ _ _ _ _ _ (ab_set M a t (.inr (5, [.int 0, .int 0, .int 0, .null, .int 0, .int 0, .int 0])))
  refine aw_aload_n dX4_init_19 rfl ?_
  refine aw_iload_n dX4_init_20 rfl ?_
  refine aw_putF dX4_init_21 fl_X4_19_5 rfl ab_set_self rfl rfl (Nat.le_of_ble_eq_true rfl) ?_
  rw [ab_set_set]
  show AW _ _ _ _ _ _ _ _ _ _ _ _ (ab_set M a t (.inr (5, [.int n, .int 0, .int 0, .null, .int 0, .int 0, .int 0])))
  refine aw_aload_n dX4_init_24 rfl ?_
  refine aw_iload_n dX4_init_25 rfl ?_
  refine aw_putF dX4_init_26 fl_X4_22_5 rfl ab_set_self rfl rfl (Nat.le_of_ble_eq_true rfl) ?_
  rw [ab_set_set]
  show AW _ _ _ _ _ _ _ _ _ _ _ _ (ab_set M a t (.inr (5, [.int n, .int fl, .int 0, .null, .int 0, .int 0, .int 0])))
  refine aw_aload_n dX4_init_29 rfl ?_
  refine aw_iload_n dX4_init_30 rfl ?_
  refine aw_putF dX4_init_31 fl_X4_25_5 rfl ab_set_self rfl rfl (Nat.le_of_ble_eq_true rfl) ?_
  rw [ab_set_set]
  show AW _ _ _ _ _ _ _ _ _ _ _ _ (ab_set M a t (.inr (5, [.int n, .int fl, .int ho, .null, .int 0, .int 0, .int 0])))
  refine aw_aload_n dX4_init_34 rfl ?_
  refine aw_aload dX4_init_35 rfl ?_
  refine aw_putF dX4_init_37 fl_X4_28_5 rfl ab_set_self rfl rfl (Nat.le_of_ble_eq_true rfl) ?_
  rw [ab_set_set]
  show AW _ _ _ _ _ _ _ _ _ _ _ _ (ab_set M a t (.inr (5, [.int n, .int fl, .int ho, .ref p, .int 0, .int 0, .int 0])))
  exact aw_vret dX4_init_40 rfl rfl
