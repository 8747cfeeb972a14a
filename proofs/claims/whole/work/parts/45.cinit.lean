/-! ===== the constructor ===== -/
theorem cj_pF {l : Launch} {g : ab_G} {X : State → Array Value → Prop} {Z : List Frame → Array Value → State → Room → State → Prop} {y : ab_Y} {F Lw kc ks : Nat} {pc : Nat} {L : List (Option Value)} {st : List Value} {M : ab_M} {a i ci : Nat} {v : Value} {ty : FieldType} {t : Nat × Nat} {fs : List Value} (k : Nat) (hd2 : decode y.2.1 pc = .ok (.putfield i, 3)) (hf : ab_fl y.1.cls i ci k ty true) (hin2 : y.1.name = "<init>") (h0 : M a = some (t, .inr (ci, fs))) (hn : narrow ty v = v) (hfit : fits ty v = true) (hlen : k < fs.length)
    (kk : ∀ M' : ab_M, M' a = some (t, .inr (ci, fs.set k v)) → KT (fun z => z = t) M M' → AW l g X Z y F Lw kc ks (pc + 3) L st M') : AW l g X Z y F Lw kc ks pc L (v :: .ref a :: st) M :=
  aw_putF hd2 hf hin2 h0 hn hfit hlen (kk _ ab_set_self (KT.put KT.rf h0 rfl))
theorem cj_new {M M9 : ab_M} {a : Nat} {t : Nat × Nat} {e e2 : va_E} (h : M a = none) (h9 : M9 = ab_set (ab_set M a t e) a t e2) : KT (fun _ => False) M M9 ∧ M9 a = some (t, e2) := by
  rw [h9, ab_set_set]
  exact ⟨KT.new KT.rf h, ab_set_self⟩
def κ0 : cS := ((upd (fun _ => 0) 27 100, (fun r => if r = 33 then lp (k_put 1) 0 10 (fun _ => 0) else if r = 40 then lp (k_put (-4)) 0 10 (fun _ => 0) else fun _ => 0), fun _ => 0), (fun _ => []), fun _ _ => 0)
set_option maxRecDepth 100000 in
set_option maxHeartbeats 4000000 in
theorem c_init {l : Launch} {g : ab_G} {M : ab_M} {a : Nat} (ha : M a = some ((0, 0), .inr (9, [.null, .null, .null, .null, .null, .null, .null, .int 0, .int 0]))) : AM l g Y_X8_init 4 80 14 807 [.ref a] M (ab_Qv (fun M' => ∃ α, α 0 0 = a ∧ CC g M' α 0 0 0 κ0 ∧ KH M M')) := by
  refine AM.of [some (.ref a)] (by decide +kernel) (Nat.le_of_ble_eq_true rfl) rfl ?_
  refine aw_aload_n dX8_init_0 rfl ?_
  refine aw_objInit dX8_init_1 tw_66 tw_67 tw_68 (by decide) (Nat.le_of_ble_eq_true rfl) ?_
  have hK : KH M M := KT.rf
  show AW _ _ _ _ _ _ _ _ _ 4 _ _ _
  refine aw_aload_n dX8_init_4 rfl ?_
  refine aw_new (kc := 13) (ks := 804) (1, 0) [.int 0, .null, .int 0] dX8_init_5 cl_0 tw_69 tw_70 tw_44 (fun j hj => by rcases (show j = 0 ∨ j = 1 ∨ j = 2 by omega) with rfl | rfl | rfl <;> rfl) (fun q0 hq0 => ?_)
  refine aw_dup dX8_init_8 rfl ?_
  refine aw_I0v (kc' := 13) (ks' := 804) dX8_init_9 cs_X8_9 (j_init ab_set_self) rfl (Nat.le_of_ble_eq_true rfl) (fun M9 h9 => ?_)
  obtain ⟨hKn, hf0⟩ := cj_new hq0 h9
  replace ha := hKn _ _ _ ha id
  replace hK := hK.tr (hKn.wid (fun t h => h.elim))
  clear hKn h9
  refine cj_pF 0 dX8_init_12 fl_X8_10_9 rfl ha rfl rfl (Nat.le_of_ble_eq_true rfl) (fun M1 ha1 hK1 => ?_)
  replace ha : M1 a = some ((0, 0), .inr (9, [.ref q0, .null, .null, .null, .null, .null, .null, .int 0, .int 0])) := ha1
  replace hf0 := hK1 _ _ _ hf0 (by simp)
  replace hK := hK.tr (hK1.wid (fun t h => by rw [h]; show 0 < 20; decide))
  clear ha1 hK1
  show AW _ _ _ _ _ _ _ _ _ 15 _ _ _
  refine aw_aload_n dX8_init_15 rfl ?_
  refine aw_new (kc := 12) (ks := 801) (1, 1) [.int 0, .null, .int 0] dX8_init_16 cl_0 tw_69 tw_70 tw_44 (fun j hj => by rcases (show j = 0 ∨ j = 1 ∨ j = 2 by omega) with rfl | rfl | rfl <;> rfl) (fun q1 hq1 => ?_)
  refine aw_dup dX8_init_19 rfl ?_
  refine aw_I0v (kc' := 12) (ks' := 801) dX8_init_20 cs_X8_9 (j_init ab_set_self) rfl (Nat.le_of_ble_eq_true rfl) (fun M9 h9 => ?_)
  obtain ⟨hKn, hf1⟩ := cj_new hq1 h9
  replace ha := hKn _ _ _ ha id
  replace hf0 := hKn _ _ _ hf0 id
  replace hK := hK.tr (hKn.wid (fun t h => h.elim))
  clear hKn h9
  refine cj_pF 1 dX8_init_23 fl_X8_16_9 rfl ha rfl rfl (Nat.le_of_ble_eq_true rfl) (fun M1 ha1 hK1 => ?_)
  replace ha : M1 a = some ((0, 0), .inr (9, [.ref q0, .ref q1, .null, .null, .null, .null, .null, .int 0, .int 0])) := ha1
  replace hf0 := hK1 _ _ _ hf0 (by simp)
  replace hf1 := hK1 _ _ _ hf1 (by simp)
  replace hK := hK.tr (hK1.wid (fun t h => by rw [h]; show 0 < 20; decide))
  clear ha1 hK1
  show AW _ _ _ _ _ _ _ _ _ 26 _ _ _
  refine aw_aload_n dX8_init_26 rfl ?_
  refine aw_new (kc := 11) (ks := 798) (1, 2) [.int 0, .null, .int 0] dX8_init_27 cl_0 tw_69 tw_70 tw_44 (fun j hj => by rcases (show j = 0 ∨ j = 1 ∨ j = 2 by omega) with rfl | rfl | rfl <;> rfl) (fun q2 hq2 => ?_)
  refine aw_dup dX8_init_30 rfl ?_
  refine aw_I0v (kc' := 11) (ks' := 798) dX8_init_31 cs_X8_9 (j_init ab_set_self) rfl (Nat.le_of_ble_eq_true rfl) (fun M9 h9 => ?_)
  obtain ⟨hKn, hf2⟩ := cj_new hq2 h9
  replace ha := hKn _ _ _ ha id
  replace hf0 := hKn _ _ _ hf0 id
  replace hf1 := hKn _ _ _ hf1 id
  replace hK := hK.tr (hKn.wid (fun t h => h.elim))
  clear hKn h9
  refine cj_pF 2 dX8_init_34 fl_X8_19_9 rfl ha rfl rfl (Nat.le_of_ble_eq_true rfl) (fun M1 ha1 hK1 => ?_)
  replace ha : M1 a = some ((0, 0), .inr (9, [.ref q0, .ref q1, .ref q2, .null, .null, .null, .null, .int 0, .int 0])) := ha1
  replace hf0 := hK1 _ _ _ hf0 (by simp)
  replace hf1 := hK1 _ _ _ hf1 (by simp)
  replace hf2 := hK1 _ _ _ hf2 (by simp)
  replace hK := hK.tr (hK1.wid (fun t h => by rw [h]; show 0 < 20; decide))
  clear ha1 hK1
  show AW _ _ _ _ _ _ _ _ _ 37 _ _ _
  refine aw_aload_n dX8_init_37 rfl ?_
  refine aw_new (kc := 10) (ks := 793) (3, 0) [.null, .null, .null, .int 0, .int 0] dX8_init_38 cl_2 tw_95 tw_96 tw_45 (fun j hj => by rcases (show j = 0 ∨ j = 1 ∨ j = 2 ∨ j = 3 ∨ j = 4 by omega) with rfl | rfl | rfl | rfl | rfl <;> rfl) (fun q3 hq3 => ?_)
  refine aw_dup dX8_init_41 rfl ?_
  refine aw_I0v (kc' := 7) (ks' := 723) dX8_init_42 cs_X8_24 (c_initA (4, 0) (4, 1) (4, 2) (by decide) (by decide) (by decide) (by decide) (by decide) ab_set_self) rfl (Nat.le_of_ble_eq_true rfl) (fun M9 h9 => ?_)
  obtain ⟨p0, p1, p2, g0, g1, g2, g3, hKn⟩ := h9
  replace ha := hKn _ _ _ (ab_set_new hq3 ha) (by simp)
  replace hf0 := hKn _ _ _ (ab_set_new hq3 hf0) (by simp)
  replace hf1 := hKn _ _ _ (ab_set_new hq3 hf1) (by simp)
  replace hf2 := hKn _ _ _ (ab_set_new hq3 hf2) (by simp)
  replace hK := hK.tr ((KT.new KT.rf hq3).tr (hKn.wid (fun t h => by first | (rcases h with h | h <;> (rw [h]; show _ < 20; decide)) | (rw [h]; show _ < 20; decide))))
  clear hKn
  refine cj_pF 3 dX8_init_45 fl_X8_25_9 rfl ha rfl rfl (Nat.le_of_ble_eq_true rfl) (fun M1 ha1 hK1 => ?_)
  replace ha : M1 a = some ((0, 0), .inr (9, [.ref q0, .ref q1, .ref q2, .ref q3, .null, .null, .null, .int 0, .int 0])) := ha1
  replace hf0 := hK1 _ _ _ hf0 (by simp)
  replace hf1 := hK1 _ _ _ hf1 (by simp)
  replace hf2 := hK1 _ _ _ hf2 (by simp)
  replace g0 := hK1 _ _ _ g0 (by simp)
  replace g1 := hK1 _ _ _ g1 (by simp)
  replace g2 := hK1 _ _ _ g2 (by simp)
  replace g3 := hK1 _ _ _ g3 (by simp)
  replace hK := hK.tr (hK1.wid (fun t h => by rw [h]; show 0 < 20; decide))
  clear ha1 hK1
  show AW _ _ _ _ _ _ _ _ _ 48 _ _ _
  refine aw_aload_n dX8_init_48 rfl ?_
  refine aw_new (kc := 6) (ks := 720) (5, 0) [.null, .int 0, .int 0] dX8_init_49 cl_7 tw_121 tw_122 tw_47 (fun j hj => by rcases (show j = 0 ∨ j = 1 ∨ j = 2 by omega) with rfl | rfl | rfl <;> rfl) (fun q4 hq4 => ?_)
  refine aw_dup dX8_init_52 rfl ?_
  refine aw_J0v (kc' := 5) (ks' := 120) dX8_init_53 cs_X8_31 (c_initP (6, 0) (by decide) ab_set_self) rfl (Nat.le_of_ble_eq_true rfl) (fun M9 h9 => ?_)
  obtain ⟨p3, g4, g5, hKn⟩ := h9
  replace ha := hKn _ _ _ (ab_set_new hq4 ha) (by simp)
  replace hf0 := hKn _ _ _ (ab_set_new hq4 hf0) (by simp)
  replace hf1 := hKn _ _ _ (ab_set_new hq4 hf1) (by simp)
  replace hf2 := hKn _ _ _ (ab_set_new hq4 hf2) (by simp)
  replace g0 := hKn _ _ _ (ab_set_new hq4 g0) (by simp)
  replace g1 := hKn _ _ _ (ab_set_new hq4 g1) (by simp)
  replace g2 := hKn _ _ _ (ab_set_new hq4 g2) (by simp)
  replace g3 := hKn _ _ _ (ab_set_new hq4 g3) (by simp)
  replace hK := hK.tr ((KT.new KT.rf hq4).tr (hKn.wid (fun t h => by first | (rcases h with h | h <;> (rw [h]; show _ < 20; decide)) | (rw [h]; show _ < 20; decide))))
  clear hKn
  refine cj_pF 4 dX8_init_56 fl_X8_32_9 rfl ha rfl rfl (Nat.le_of_ble_eq_true rfl) (fun M1 ha1 hK1 => ?_)
  replace ha : M1 a = some ((0, 0), .inr (9, [.ref q0, .ref q1, .ref q2, .ref q3, .ref q4, .null, .null, .int 0, .int 0])) := ha1
  replace hf0 := hK1 _ _ _ hf0 (by simp)
  replace hf1 := hK1 _ _ _ hf1 (by simp)
  replace hf2 := hK1 _ _ _ hf2 (by simp)
  replace g0 := hK1 _ _ _ g0 (by simp)
  replace g1 := hK1 _ _ _ g1 (by simp)
  replace g2 := hK1 _ _ _ g2 (by simp)
  replace g3 := hK1 _ _ _ g3 (by simp)
  replace g4 := hK1 _ _ _ g4 (by simp)
  replace g5 := hK1 _ _ _ g5 (by simp)
  replace hK := hK.tr (hK1.wid (fun t h => by rw [h]; show 0 < 20; decide))
  clear ha1 hK1
  show AW _ _ _ _ _ _ _ _ _ 59 _ _ _
  refine aw_aload_n dX8_init_59 rfl ?_
  refine aw_new (kc := 4) (ks := 117) (7, 0) [.null, .null, .null] dX8_init_60 cl_4 tw_138 tw_139 tw_48 (fun j hj => by rcases (show j = 0 ∨ j = 1 ∨ j = 2 by omega) with rfl | rfl | rfl <;> rfl) (fun q5 hq5 => ?_)
  refine aw_dup dX8_init_63 rfl ?_
  refine aw_I0v (kc' := 1) (ks' := 7) dX8_init_64 cs_X8_38 (c_initG (8, 0) (8, 1) (8, 2) (by decide) (by decide) (by decide) (by decide) (by decide) ab_set_self) rfl (Nat.le_of_ble_eq_true rfl) (fun M9 h9 => ?_)
  obtain ⟨p4, p5, p6, g6, g7, g8, g9, hKn⟩ := h9
  replace ha := hKn _ _ _ (ab_set_new hq5 ha) (by simp)
  replace hf0 := hKn _ _ _ (ab_set_new hq5 hf0) (by simp)
  replace hf1 := hKn _ _ _ (ab_set_new hq5 hf1) (by simp)
  replace hf2 := hKn _ _ _ (ab_set_new hq5 hf2) (by simp)
  replace g0 := hKn _ _ _ (ab_set_new hq5 g0) (by simp)
  replace g1 := hKn _ _ _ (ab_set_new hq5 g1) (by simp)
  replace g2 := hKn _ _ _ (ab_set_new hq5 g2) (by simp)
  replace g3 := hKn _ _ _ (ab_set_new hq5 g3) (by simp)
  replace g4 := hKn _ _ _ (ab_set_new hq5 g4) (by simp)
  replace g5 := hKn _ _ _ (ab_set_new hq5 g5) (by simp)
  replace hK := hK.tr ((KT.new KT.rf hq5).tr (hKn.wid (fun t h => by first | (rcases h with h | h <;> (rw [h]; show _ < 20; decide)) | (rw [h]; show _ < 20; decide))))
  clear hKn
  refine cj_pF 5 dX8_init_67 fl_X8_39_9 rfl ha rfl rfl (Nat.le_of_ble_eq_true rfl) (fun M1 ha1 hK1 => ?_)
  replace ha : M1 a = some ((0, 0), .inr (9, [.ref q0, .ref q1, .ref q2, .ref q3, .ref q4, .ref q5, .null, .int 0, .int 0])) := ha1
  replace hf0 := hK1 _ _ _ hf0 (by simp)
  replace hf1 := hK1 _ _ _ hf1 (by simp)
  replace hf2 := hK1 _ _ _ hf2 (by simp)
  replace g0 := hK1 _ _ _ g0 (by simp)
  replace g1 := hK1 _ _ _ g1 (by simp)
  replace g2 := hK1 _ _ _ g2 (by simp)
  replace g3 := hK1 _ _ _ g3 (by simp)
  replace g4 := hK1 _ _ _ g4 (by simp)
  replace g5 := hK1 _ _ _ g5 (by simp)
  replace g6 := hK1 _ _ _ g6 (by simp)
  replace g7 := hK1 _ _ _ g7 (by simp)
  replace g8 := hK1 _ _ _ g8 (by simp)
  replace g9 := hK1 _ _ _ g9 (by simp)
  replace hK := hK.tr (hK1.wid (fun t h => by rw [h]; show 0 < 20; decide))
  clear ha1 hK1
  show AW _ _ _ _ _ _ _ _ _ 70 _ _ _
  refine aw_aload_n dX8_init_70 rfl ?_
  refine aw_bipush (v := 7) dX8_init_71 (by decide) ?_
  refine aw_newaJ (kc := 0) (ks := 0) (N := 7) (9, 0) dX8_init_73 rfl tw_183 (by decide) (by decide) (by decide) (fun q6 hq6 => ?_)
  obtain ⟨M9, hM9⟩ : ∃ M9, M9 = ab_set M1 q6 (9, 0) (ab_al g 7 (fun _ => 0)) := ⟨_, rfl⟩
  rw [← hM9]
  have hKn := kt_no hq6 hM9
  have g10 : M9 q6 = some ((9, 0), ab_al g 7 (fun _ => 0)) := by rw [hM9]; exact ab_set_self
  replace ha := hKn _ _ _ ha id
  replace hf0 := hKn _ _ _ hf0 id
  replace hf1 := hKn _ _ _ hf1 id
  replace hf2 := hKn _ _ _ hf2 id
  replace g0 := hKn _ _ _ g0 id
  replace g1 := hKn _ _ _ g1 id
  replace g2 := hKn _ _ _ g2 id
  replace g3 := hKn _ _ _ g3 id
  replace g4 := hKn _ _ _ g4 id
  replace g5 := hKn _ _ _ g5 id
  replace g6 := hKn _ _ _ g6 id
  replace g7 := hKn _ _ _ g7 id
  replace g8 := hKn _ _ _ g8 id
  replace g9 := hKn _ _ _ g9 id
  replace hK := hK.tr (hKn.wid (fun t h => h.elim))
  refine cj_pF 6 dX8_init_75 fl_X8_43_9 rfl ha rfl rfl (Nat.le_of_ble_eq_true rfl) (fun M1 ha1 hK1 => ?_)
  replace ha : M1 a = some ((0, 0), .inr (9, [.ref q0, .ref q1, .ref q2, .ref q3, .ref q4, .ref q5, .ref q6, .int 0, .int 0])) := ha1
  replace hf0 := hK1 _ _ _ hf0 (by simp)
  replace hf1 := hK1 _ _ _ hf1 (by simp)
  replace hf2 := hK1 _ _ _ hf2 (by simp)
  replace g0 := hK1 _ _ _ g0 (by simp)
  replace g1 := hK1 _ _ _ g1 (by simp)
  replace g2 := hK1 _ _ _ g2 (by simp)
  replace g3 := hK1 _ _ _ g3 (by simp)
  replace g4 := hK1 _ _ _ g4 (by simp)
  replace g5 := hK1 _ _ _ g5 (by simp)
  replace g6 := hK1 _ _ _ g6 (by simp)
  replace g7 := hK1 _ _ _ g7 (by simp)
  replace g8 := hK1 _ _ _ g8 (by simp)
  replace g9 := hK1 _ _ _ g9 (by simp)
  replace g10 := hK1 _ _ _ g10 (by simp)
  replace hK := hK.tr (hK1.wid (fun t h => by rw [h]; show 0 < 20; decide))
  clear ha1 hK1
  show AW _ _ _ _ _ _ _ _ _ 78 _ _ _
  refine aw_aload_n dX8_init_78 rfl ?_
  refine aw_iconst (v := 0) dX8_init_79 (by decide) ?_
  refine cj_put 7 dX8_init_80 fl_X8_47_9 ha (Nat.le_of_ble_eq_true rfl) (fun M1 ha1 hK1 => ?_)
  replace ha : M1 a = some ((0, 0), .inr (9, [.ref q0, .ref q1, .ref q2, .ref q3, .ref q4, .ref q5, .ref q6, .int 0, .int 0])) := ha1
  replace hf0 := hK1 _ _ _ hf0 (by simp)
  replace hf1 := hK1 _ _ _ hf1 (by simp)
  replace hf2 := hK1 _ _ _ hf2 (by simp)
  replace g0 := hK1 _ _ _ g0 (by simp)
  replace g1 := hK1 _ _ _ g1 (by simp)
  replace g2 := hK1 _ _ _ g2 (by simp)
  replace g3 := hK1 _ _ _ g3 (by simp)
  replace g4 := hK1 _ _ _ g4 (by simp)
  replace g5 := hK1 _ _ _ g5 (by simp)
  replace g6 := hK1 _ _ _ g6 (by simp)
  replace g7 := hK1 _ _ _ g7 (by simp)
  replace g8 := hK1 _ _ _ g8 (by simp)
  replace g9 := hK1 _ _ _ g9 (by simp)
  replace g10 := hK1 _ _ _ g10 (by simp)
  replace hK := hK.tr (hK1.wid (fun t h => by rw [h]; show 0 < 20; decide))
  clear ha1 hK1
  show AW _ _ _ _ _ _ _ _ _ 83 _ _ _
  refine aw_aload_n dX8_init_83 rfl ?_
  refine aw_bipush (v := 100) dX8_init_84 (by decide) ?_
  refine cj_put 8 dX8_init_86 fl_X8_51_9 ha (Nat.le_of_ble_eq_true rfl) (fun M1 ha1 hK1 => ?_)
  replace ha : M1 a = some ((0, 0), .inr (9, [.ref q0, .ref q1, .ref q2, .ref q3, .ref q4, .ref q5, .ref q6, .int 0, .int 100])) := ha1
  replace hf0 := hK1 _ _ _ hf0 (by simp)
  replace hf1 := hK1 _ _ _ hf1 (by simp)
  replace hf2 := hK1 _ _ _ hf2 (by simp)
  replace g0 := hK1 _ _ _ g0 (by simp)
  replace g1 := hK1 _ _ _ g1 (by simp)
  replace g2 := hK1 _ _ _ g2 (by simp)
  replace g3 := hK1 _ _ _ g3 (by simp)
  replace g4 := hK1 _ _ _ g4 (by simp)
  replace g5 := hK1 _ _ _ g5 (by simp)
  replace g6 := hK1 _ _ _ g6 (by simp)
  replace g7 := hK1 _ _ _ g7 (by simp)
  replace g8 := hK1 _ _ _ g8 (by simp)
  replace g9 := hK1 _ _ _ g9 (by simp)
  replace g10 := hK1 _ _ _ g10 (by simp)
  replace hK := hK.tr (hK1.wid (fun t h => by rw [h]; show 0 < 20; decide))
  clear ha1 hK1
  refine aw_vret dX8_init_89 rfl ⟨(up2 (up2 (up2 (up2 (up2 (up2 (up2 (up2 (up2 (up2 (up2 (up2 (up2 (up2 (up2 (fun _ _ => 0) 0 0 a) 1 0 q0) 1 1 q1) 1 2 q2) 3 0 q3) 4 0 p0) 4 1 p1) 4 2 p2) 5 0 q4) 6 0 p3) 7 0 q5) 8 0 p4) 8 1 p5) 8 2 p6) 9 0 q6), rfl, ?_, hK⟩
  refine ⟨ha, ⟨g0, g1, g2, g3⟩, ⟨g4, g5⟩, ⟨g6, g7, g8, g9⟩, g10, fun i hi => absurd hi (by omega), fun i hi => absurd hi (by omega), fun i hi => absurd hi (by omega), ⟨Or.inr ⟨rfl, 0, hf0⟩, Or.inr ⟨rfl, 0, hf1⟩, Or.inr ⟨rfl, 0, hf2⟩⟩, fun i hi => absurd hi (by omega)⟩
