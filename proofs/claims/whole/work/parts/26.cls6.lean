/-! ===== constructors: Fares, Pourings, Giving ===== -/
theorem cj_IF {l : Launch} {g : ab_G} {X : State → Array Value → Prop} {Z : List Frame → Array Value → State → Room → State → Prop} {y : ab_Y} {F Lw kc ks : Nat} {pc : Nat} {L : List (Option Value)} {st : List Value} {M : ab_M} {a i N ci : Nat} {n : Int32} {t : Nat × Nat} {fs : List Value} (tp : Nat × Nat) (k : Nat) (hd : decode y.2.1 pc = .ok (.newarray .int, 2)) (hd2 : decode y.2.1 (pc + 2) = .ok (.putfield i, 3)) (hf : ab_fl y.1.cls i ci k (.array .int) true) (hin2 : y.1.name = "<init>") (hn : ¬ n < 0) (hN : n.toNatClampNeg = N) (hb : N * componentBytes .int ≤ 536870912) (h0 : M a = some (t, .inr (ci, fs))) (hlen : k < fs.length) (ht : tp ≠ t)
    (kk : ∀ (M' : ab_M) (q : Nat), M q = none → M' a = some (t, .inr (ci, fs.set k (.ref q))) → M' q = some (tp, ab_ai g N (fun _ => 0)) → KT (fun z => z = t) M M' → AW l g X Z y F Lw kc ks (pc + 5) L st M') : AW l g X Z y F Lw (kc + 1) (ks + N) pc L (.int n :: .ref a :: st) M := by
  refine aw_newaI tp hd rfl tw_120 hn hN hb (fun q hq => ?_)
  refine aw_putF hd2 hf hin2 (ab_set_new hq h0) rfl rfl hlen ?_
  exact kk _ q hq ab_set_self (ab_set_tag (ab_set_new hq h0) ab_set_self ht) (fun b t2 e2 hb2 h2 => ab_set_tag (ab_set_new hq h0) (ab_set_new hq hb2) h2)
theorem cj_I {l : Launch} {g : ab_G} {X : State → Array Value → Prop} {Z : List Frame → Array Value → State → Room → State → Prop} {y : ab_Y} {F Lw kc ks : Nat} {pc : Nat} {L : List (Option Value)} {st : List Value} {M : ab_M} {a i N ci : Nat} {n : Int32} {t : Nat × Nat} {fs : List Value} (tp : Nat × Nat) (k : Nat) (hd : decode y.2.1 pc = .ok (.newarray .int, 2)) (hd2 : decode y.2.1 (pc + 2) = .ok (.putfield i, 3)) (hf : ab_fl y.1.cls i ci k (.array .int) false) (hn : ¬ n < 0) (hN : n.toNatClampNeg = N) (hb : N * componentBytes .int ≤ 536870912) (h0 : M a = some (t, .inr (ci, fs))) (hlen : k < fs.length) (ht : tp ≠ t)
    (kk : ∀ (M' : ab_M) (q : Nat), M q = none → M' a = some (t, .inr (ci, fs.set k (.ref q))) → M' q = some (tp, ab_ai g N (fun _ => 0)) → KT (fun z => z = t) M M' → AW l g X Z y F Lw kc ks (pc + 5) L st M') : AW l g X Z y F Lw (kc + 1) (ks + N) pc L (.int n :: .ref a :: st) M := by
  refine aw_newaI tp hd rfl tw_120 hn hN hb (fun q hq => ?_)
  refine aw_put hd2 hf (ab_set_new hq h0) rfl rfl hlen ?_
  exact kk _ q hq ab_set_self (ab_set_tag (ab_set_new hq h0) ab_set_self ht) (fun b t2 e2 hb2 h2 => ab_set_tag (ab_set_new hq h0) (ab_set_new hq hb2) h2)
theorem cj_put {l : Launch} {g : ab_G} {X : State → Array Value → Prop} {Z : List Frame → Array Value → State → Room → State → Prop} {y : ab_Y} {F Lw kc ks : Nat} {pc : Nat} {L : List (Option Value)} {st : List Value} {M : ab_M} {a i ci : Nat} {v : Int32} {t : Nat × Nat} {fs : List Value} (k : Nat) (hd2 : decode y.2.1 pc = .ok (.putfield i, 3)) (hf : ab_fl y.1.cls i ci k .int false) (h0 : M a = some (t, .inr (ci, fs))) (hlen : k < fs.length)
    (kk : ∀ M' : ab_M, M' a = some (t, .inr (ci, fs.set k (.int v))) → KT (fun z => z = t) M M' → AW l g X Z y F Lw kc ks (pc + 3) L st M') : AW l g X Z y F Lw kc ks pc L (.int v :: .ref a :: st) M :=
  aw_put hd2 hf h0 rfl rfl hlen (kk _ ab_set_self (KT.put KT.rf h0 rfl))
set_option maxRecDepth 100000 in
set_option maxHeartbeats 4000000 in
theorem c_initP {l : Launch} {g : ab_G} {M : ab_M} (tp : Nat × Nat) {a : Nat} {t : Nat × Nat} (ht0 : tp ≠ t) (ha : M a = some (t, .inr (7, [.null, .int 0, .int 0]))) : AM l g Y_X6_init 1 20 1 600 [.ref a] M (ab_Qv (fun M' => ∃ p0, M' a = some (t, .inr (7, [.ref p0, .int 0, .int 0])) ∧ M' p0 = some (tp, ab_ai g 600 (fun _ => 0)) ∧ KT (fun z => z = t) M M')) := by
  refine AM.of [some (.ref a)] (by decide +kernel) (Nat.le_of_ble_eq_true rfl) rfl ?_
  refine aw_aload_n dX6_init_0 rfl ?_
  refine aw_objInit dX6_init_1 tw_126 tw_67 tw_68 (by decide) (Nat.le_of_ble_eq_true rfl) ?_
  have hK : KT (fun z => z = t) M M := KT.rf
  show AW _ _ _ _ _ _ _ _ _ 4 _ _ _
  refine aw_aload_n dX6_init_4 rfl ?_
  refine aw_sipush (v := 600) dX6_init_5 (by decide) ?_
  refine cj_IF (kc := 0) (ks := 0) (N := 600) tp 0 dX6_init_8 dX6_init_10 fl_X6_11_7 rfl (by decide) (by decide) (by decide) ha (Nat.le_of_ble_eq_true rfl) ht0 (fun M9 p0 hn0 ha hp0 hK9 => ?_)
  replace ha : M9 a = some (t, .inr (7, [.ref p0, .int 0, .int 0])) := ha
  replace hK := hK.tr hK9
  show AW _ _ _ _ _ _ _ _ _ 13 _ _ _
  refine aw_aload_n dX6_init_13 rfl ?_
  refine aw_iconst (v := 0) dX6_init_14 (by decide) ?_
  refine cj_put 1 dX6_init_15 fl_X6_15_7 ha (Nat.le_of_ble_eq_true rfl) (fun M9 ha hK9 => ?_)
  replace ha : M9 a = some (t, .inr (7, [.ref p0, .int 0, .int 0])) := ha
  replace hp0 := hK9 _ _ _ hp0 ht0
  replace hK := hK.tr hK9
  show AW _ _ _ _ _ _ _ _ _ 18 _ _ _
  refine aw_aload_n dX6_init_18 rfl ?_
  refine aw_iconst (v := 0) dX6_init_19 (by decide) ?_
  refine cj_put 2 dX6_init_20 fl_X6_19_7 ha (Nat.le_of_ble_eq_true rfl) (fun M9 ha hK9 => ?_)
  replace ha : M9 a = some (t, .inr (7, [.ref p0, .int 0, .int 0])) := ha
  replace hp0 := hK9 _ _ _ hp0 ht0
  replace hK := hK.tr hK9
  exact aw_vret dX6_init_23 rfl ⟨p0, ha, hp0, hK⟩
set_option maxRecDepth 100000 in
set_option maxHeartbeats 4000000 in
theorem c_initA {l : Launch} {g : ab_G} {M : ab_M} (t0 t1 t2 : Nat × Nat) {a : Nat} {t : Nat × Nat} (ht0 : t0 ≠ t) (ht1 : t1 ≠ t) (ht2 : t2 ≠ t) (h01 : t0 ≠ t1) (h12 : t1 ≠ t2) (ha : M a = some (t, .inr (2, [.null, .null, .null, .int 0, .int 0]))) : AM l g Y_X1_init 1 23 3 70 [.ref a] M (ab_Qv (fun M' => ∃ p0 p1 p2, M' a = some (t, .inr (2, [.ref p0, .ref p1, .ref p2, .int 0, .int 0])) ∧ M' p0 = some (t0, ab_ai g 50 (fun _ => 0)) ∧ M' p1 = some (t1, ab_ai g 10 (lp (k_put 1) 0 10 (fun _ => 0))) ∧ M' p2 = some (t2, ab_ai g 10 (fun _ => 0)) ∧ KT (fun z => z = t ∨ z = t1) M M')) := by
  refine AM.of [some (.ref a)] (by decide +kernel) (Nat.le_of_ble_eq_true rfl) rfl ?_
  refine aw_aload_n dX1_init_0 rfl ?_
  refine aw_objInit dX1_init_1 tw_100 tw_67 tw_68 (by decide) (Nat.le_of_ble_eq_true rfl) ?_
  have hK : KT (fun z => z = t) M M := KT.rf
  show AW _ _ _ _ _ _ _ _ _ 4 _ _ _
  refine aw_aload_n dX1_init_4 rfl ?_
  refine aw_bipush (v := 50) dX1_init_5 (by decide) ?_
  refine cj_IF (kc := 2) (ks := 20) (N := 50) t0 0 dX1_init_7 dX1_init_9 fl_X1_11_2 rfl (by decide) (by decide) (by decide) ha (Nat.le_of_ble_eq_true rfl) ht0 (fun M9 p0 hn0 ha hp0 hK9 => ?_)
  replace ha : M9 a = some (t, .inr (2, [.ref p0, .null, .null, .int 0, .int 0])) := ha
  replace hK := hK.tr hK9
  show AW _ _ _ _ _ _ _ _ _ 12 _ _ _
  refine aw_aload_n dX1_init_12 rfl ?_
  refine aw_bipush (v := 10) dX1_init_13 (by decide) ?_
  refine cj_I (kc := 1) (ks := 10) (N := 10) t1 1 dX1_init_15 dX1_init_17 fl_X1_15_2 (by decide) (by decide) (by decide) ha (Nat.le_of_ble_eq_true rfl) ht1 (fun M9 p1 hn1 ha hp1 hK9 => ?_)
  replace ha : M9 a = some (t, .inr (2, [.ref p0, .ref p1, .null, .int 0, .int 0])) := ha
  replace hp0 := hK9 _ _ _ hp0 ht0
  replace hK := hK.tr hK9
  show AW _ _ _ _ _ _ _ _ _ 20 _ _ _
  refine aw_aload_n dX1_init_20 rfl ?_
  refine aw_bipush (v := 10) dX1_init_21 (by decide) ?_
  refine cj_I (kc := 0) (ks := 0) (N := 10) t2 2 dX1_init_23 dX1_init_25 fl_X1_18_2 (by decide) (by decide) (by decide) ha (Nat.le_of_ble_eq_true rfl) ht2 (fun M9 p2 hn2 ha hp2 hK9 => ?_)
  replace ha : M9 a = some (t, .inr (2, [.ref p0, .ref p1, .ref p2, .int 0, .int 0])) := ha
  replace hp0 := hK9 _ _ _ hp0 ht0
  replace hp1 := hK9 _ _ _ hp1 ht1
  replace hK := hK.tr hK9
  show AW _ _ _ _ _ _ _ _ _ 28 _ _ _
  refine aw_aload_n dX1_init_28 rfl ?_
  refine aw_iconst (v := 0) dX1_init_29 (by decide) ?_
  refine cj_put 3 dX1_init_30 fl_X1_21_2 ha (Nat.le_of_ble_eq_true rfl) (fun M9 ha hK9 => ?_)
  replace ha : M9 a = some (t, .inr (2, [.ref p0, .ref p1, .ref p2, .int 0, .int 0])) := ha
  replace hp0 := hK9 _ _ _ hp0 ht0
  replace hp1 := hK9 _ _ _ hp1 ht1
  replace hp2 := hK9 _ _ _ hp2 ht2
  replace hK := hK.tr hK9
  show AW _ _ _ _ _ _ _ _ _ 33 _ _ _
  refine aw_aload_n dX1_init_33 rfl ?_
  refine aw_iconst (v := 0) dX1_init_34 (by decide) ?_
  refine cj_put 4 dX1_init_35 fl_X1_25_2 ha (Nat.le_of_ble_eq_true rfl) (fun M9 ha hK9 => ?_)
  replace ha : M9 a = some (t, .inr (2, [.ref p0, .ref p1, .ref p2, .int 0, .int 0])) := ha
  replace hp0 := hK9 _ _ _ hp0 ht0
  replace hp1 := hK9 _ _ _ hp1 ht1
  replace hp2 := hK9 _ _ _ hp2 ht2
  replace hK := hK.tr hK9
  show AW _ _ _ _ _ _ _ _ _ 38 _ _ _
  refine aw_aload_n dX1_init_38 rfl ?_
  refine aw_get dX1_init_39 fg_X1_15_2 ha rfl ?_
  refine aw_iconst (v := 1) dX1_init_42 (by decide) ?_
  refine aw_S2v (kc' := 0) (ks' := 0) dX1_init_43 cs_X1_28 (j_fill (by decide) hp1) rfl (Nat.le_of_ble_eq_true rfl) (fun M43 h43 => ?_)
  subst h43
  exact aw_vret dX1_init_46 rfl ⟨p0, p1, p2, ab_set_tag hp1 ha (Ne.symm ht1), ab_set_tag hp1 hp0 h01, ab_set_self, ab_set_tag hp1 hp2 (Ne.symm h12), (hK.wid (fun z h => Or.inl h)).put hp1 (Or.inr rfl)⟩
set_option maxRecDepth 100000 in
set_option maxHeartbeats 4000000 in
theorem c_initG {l : Launch} {g : ab_G} {M : ab_M} (t0 t1 t2 : Nat × Nat) {a : Nat} {t : Nat × Nat} (ht0 : t0 ≠ t) (ht1 : t1 ≠ t) (ht2 : t2 ≠ t) (h02 : t0 ≠ t2) (h12 : t1 ≠ t2) (ha : M a = some (t, .inr (4, [.null, .null, .null]))) : AM l g Y_X3_init 1 23 3 110 [.ref a] M (ab_Qv (fun M' => ∃ p0 p1 p2, M' a = some (t, .inr (4, [.ref p0, .ref p1, .ref p2])) ∧ M' p0 = some (t0, ab_ai g 36 (fun _ => 0)) ∧ M' p1 = some (t1, ab_ai g 64 (fun _ => 0)) ∧ M' p2 = some (t2, ab_ai g 10 (lp (k_put (-4)) 0 10 (fun _ => 0))) ∧ KT (fun z => z = t ∨ z = t2) M M')) := by
  refine AM.of [some (.ref a)] (by decide +kernel) (Nat.le_of_ble_eq_true rfl) rfl ?_
  refine aw_aload_n dX3_init_0 rfl ?_
  refine aw_objInit dX3_init_1 tw_143 tw_67 tw_68 (by decide) (Nat.le_of_ble_eq_true rfl) ?_
  have hK : KT (fun z => z = t) M M := KT.rf
  show AW _ _ _ _ _ _ _ _ _ 4 _ _ _
  refine aw_aload_n dX3_init_4 rfl ?_
  refine aw_bipush (v := 36) dX3_init_5 (by decide) ?_
  refine cj_IF (kc := 2) (ks := 74) (N := 36) t0 0 dX3_init_7 dX3_init_9 fl_X3_11_4 rfl (by decide) (by decide) (by decide) ha (Nat.le_of_ble_eq_true rfl) ht0 (fun M9 p0 hn0 ha hp0 hK9 => ?_)
  replace ha : M9 a = some (t, .inr (4, [.ref p0, .null, .null])) := ha
  replace hK := hK.tr hK9
  show AW _ _ _ _ _ _ _ _ _ 12 _ _ _
  refine aw_aload_n dX3_init_12 rfl ?_
  refine aw_bipush (v := 64) dX3_init_13 (by decide) ?_
  refine cj_IF (kc := 1) (ks := 10) (N := 64) t1 1 dX3_init_15 dX3_init_17 fl_X3_15_4 rfl (by decide) (by decide) (by decide) ha (Nat.le_of_ble_eq_true rfl) ht1 (fun M9 p1 hn1 ha hp1 hK9 => ?_)
  replace ha : M9 a = some (t, .inr (4, [.ref p0, .ref p1, .null])) := ha
  replace hp0 := hK9 _ _ _ hp0 ht0
  replace hK := hK.tr hK9
  show AW _ _ _ _ _ _ _ _ _ 20 _ _ _
  refine aw_aload_n dX3_init_20 rfl ?_
  refine aw_bipush (v := 10) dX3_init_21 (by decide) ?_
  refine cj_IF (kc := 0) (ks := 0) (N := 10) t2 2 dX3_init_23 dX3_init_25 fl_X3_18_4 rfl (by decide) (by decide) (by decide) ha (Nat.le_of_ble_eq_true rfl) ht2 (fun M9 p2 hn2 ha hp2 hK9 => ?_)
  replace ha : M9 a = some (t, .inr (4, [.ref p0, .ref p1, .ref p2])) := ha
  replace hp0 := hK9 _ _ _ hp0 ht0
  replace hp1 := hK9 _ _ _ hp1 ht1
  replace hK := hK.tr hK9
  show AW _ _ _ _ _ _ _ _ _ 28 _ _ _
  refine aw_aload_n dX3_init_28 rfl ?_
  refine aw_get dX3_init_29 fg_X3_18_4 ha rfl ?_
  refine aw_bipush (v := -4) dX3_init_32 (by decide) ?_
  refine aw_S2v (kc' := 0) (ks' := 0) dX3_init_34 cs_X3_21 (j_fill (by decide) hp2) rfl (Nat.le_of_ble_eq_true rfl) (fun M34 h34 => ?_)
  subst h34
  exact aw_vret dX3_init_37 rfl ⟨p0, p1, p2, ab_set_tag hp2 ha (Ne.symm ht2), ab_set_tag hp2 hp0 h02, ab_set_tag hp2 hp1 h12, ab_set_self, (hK.wid (fun z h => Or.inl h)).put hp2 (Or.inr rfl)⟩
