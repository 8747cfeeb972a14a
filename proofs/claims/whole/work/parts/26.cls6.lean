/-! ===== constructors: Fares, Pourings, Giving ===== -/
theorem cj_IF {l : Launch} {g : ab_G} {X : State → Array Value → Prop} {Z : List Frame → Array Value → State → Room → State → Prop} {y : ab_Y} {F Lw kc ks : Nat} {pc : Nat} {L : List (Option Value)} {st : List Value} {M : ab_M} {a i N ci : Nat} {n : Int32} {t : Nat × Nat} {fs : List Value} (tp : Nat × Nat) (k : Nat) (hd : decode y.2.1 pc = .ok (.newarray .int, 2)) (hd2 : decode y.2.1 (pc + 2) = .ok (.putfield i, 3)) (hf : ab_fl y.1.cls i ci k (.array .int) true) (hin2 : y.1.name = "<init>") (hn : ¬ n < 0) (hN : n.toNatClampNeg = N) (hb : N * componentBytes .int ≤ 536870912) (h0 : M a = some (t, .inr (ci, fs))) (hlen : k < fs.length) (ht : tp ≠ t)
    (kk : ∀ (M' : ab_M) (q : Nat), M q = none → M' a = some (t, .inr (ci, fs.set k (.ref q))) → M' q = some (tp, ab_ai g N (fun _ => 0)) → KT (fun z => z = t) M M' → AW l g X Z y F Lw kc ks (pc + 5) L st M') : AW l g X Z y F Lw (kc + 1) (ks + N) pc L (.int n :: .ref a :: st) M := by
  refine aw_newaI tp hd rfl tw_120 hn hN hb (fun q hq => ?_)
  refine aw_putF hd2 hf hin2 (ab_set_new hq h0) rfl rfl hlen ?_
  exact kk _ q hq ab_set_self (ab_set_tag (ab_set_new hq h0) ab_set_self ht) (fun b t2 e2 hb2 h2 => ab_set_tag (ab_set_new hq h0) (ab_set_new hq hb2) h2)
theorem cj_I {l : Launch} {g : ab_G} {X : State → Array Value → Prop} {Z : List Frame → Array Value → State → Room → State → Prop} {y : ab_Y} {F Lw kc ks : Nat} {pc : Nat} {L : List (Option Value)} {st : List Value} {M : ab_M} {a i N ci : Nat} {n : Int32} {t : Nat × Nat} {fs : List Value} (tp : Nat × Nat) (k : Nat) (hd : decode y.2.1 pc = .ok (.newarray .int, 2)) (hd2 : decode y.2.1 (pc + 2) = .ok (.putfield i, 3)) (hf : ab_fl y.1.cls i ci k (.array .int) false) (hn : ¬ n < 0) (hN : n.toNatClampNeg = N) (hb : N * componentBytes .int ≤ 536870912) (h0 : M a = some (t, .inr (ci, fs))) (hlen : k < fs.length) (ht : tp ≠ t)
    (kk : ∀ (M' : ab_M) (q : Nat), M q = none → M' a = some (t, .inr (ci, fs.set k (.ref q))) → M' q = some (tp, ab_ai g N (fun _ => 0)) → KT (fun z => z = t) M M' → AW l g X Z y F Lw kc ks (pc + 5) L st M') : AW l g X Z y F Lw (kc + 1) (ks + N) pc L (.int n :: .ref a :: st) M := by
  refine aw_newaI tp hd rfl tw_120 hn hN hb (fun q hq => ?_)
  refine aw_put hd2 hf (ab_set_new hq h0) rfl rfl hlen ?_
  exact kk _ q hq ab_set_self (ab_set_tag (ab_set_new hq h0) ab_set_self ht) (fun b t2 e2 hb2 h2 => ab_set_tag (ab_set_new hq h0) (ab_set_new hq hb2) h2)
theorem cj_put {l : Launch} {g : ab_G} {X : State → Array Value → Prop} {Z : List Frame → Array Value → State → Room → State → Prop} {y : ab_Y} {F Lw kc ks : Nat} {pc : Nat} {L : List (Option Value)} {st : List Value} {M : ab_M} {a i ci : Nat} {v : Int32} {t : Nat × Nat} {fs : List Value} (k : Nat) (hd2 : decode y.2.1 pc = .ok (.putfield i, 3)) (hf : ab_fl y.1.cls i ci k .int false) (h0 : M a = some (t, .inr (ci, fs))) (hlen : k < fs.length)
    (kk : ∀ M' : ab_M, M' a = some (t, .inr (ci, fs.set k (.int v))) → KT (fun z => z = t) M M' → AW l g X Z y F Lw kc ks (pc + 3) L st M') : AW l g X Z y F Lw kc ks pc L (.int v :: .ref a :: st) M :=
  aw_put hd2 hf h0 rfl rfl hlen (kk _ ab_set_self (KT.put KT.rf h0 rfl))
set_option maxRecDepth 100000 in
set_option maxHeartbeats 4000000 in
theorem c_initP {l : Launch} {g : ab_G} {M : ab_M} (tp : Nat × Nat) {a : Nat} {t : Nat × Nat} (ht0 : tp ≠ t) (ha : M a = some (t, .inr (7, [.null, .int 0, .int 0]))) : AM l g Y_X6_init 1 20 1 600 [.ref a] M (ab_Qv (fun M' => ∃ p0, M' a = some (t, .inr (7, [.ref p0, .int 0, .int 0])) ∧ M' p0 = some (tp, ab_ai g 600 (fun _ => 0)) ∧ KT (fun z => z = t) M M')) := by
  refine AM.of [some (.ref a)] (by decide +kernel) (Nat.le_of_ble_eq_true rfl) rfl ?_
  refine aw_aload_n dX6_init_0 rfl ?_
  refine aw_objInit dX6_init_1 tw_126 tw_67 tw_68 (by decide) (Nat.le_of_ble_eq_true rfl) ?_
  have hK : KT (fun z => z = t) M M := KT.rf
  show AW _ _ _ _ _ _ _ _ _ 4 _ _ _
  refine aw_aload_n dX6_init_4 rfl ?_
  refine aw_sipush (v := 600) dX6_init_5 (by decide) ?_
  refine cj_IF (kc := 0) (ks := 0) (N := 600) tp 0 dX6_init_8 dX6_init_10 fl_X6_11_7 rfl (by decide) (by decide) (by decide) ha (Nat.le_of_ble_eq_true rfl) ht0 (fun M9 p0 hn0 ha hp0 hK9 => ?_)
  replace ha : M9 a = some (t, .inr (7, [.ref p0, .int 0, .int 0])) := ha
  replace hK := hK.tr hK9
  show AW _ _ _ _ _ _ _ _ _ 13 _ _ _
  refine aw_aload_n dX6_init_13 rfl ?_
  refine aw_iconst (v := 0) dX6_init_14 (by decide) ?_
  refine cj_put 1 dX6_init_15 fl_X6_15_7 ha (Nat.le_of_ble_eq_true rfl) (fun M9 ha hK9 => ?_)
  replace ha : M9 a = some (t, .inr (7, [.ref p0, .int 0, .int 0])) := ha
  replace hp0 := hK9 _ _ _ hp0 ht0
  replace hK := hK.tr hK9
  show AW _ _ _ _ _ _ _ _ _ 18 _ _ _
  refine aw_aload_n dX6_init_18 rfl ?_
  refine aw_iconst (v := 0) dX6_init_19 (by decide) ?_
  refine cj_put 2 dX6_init_20 fl_X6_19_7 ha (Nat.le_of_ble_eq_true rfl) (fun M9 ha hK9 => ?_)
  replace ha : M9 a = some (t, .inr (7, [.ref p0, .int 0, .int 0])) := ha
  replace hp0 := hK9 _ _ _ hp0 ht0
  replace hK := hK.tr hK9
  exact aw_vret dX6_init_23 rfl ⟨p0, ha, hp0, hK⟩
