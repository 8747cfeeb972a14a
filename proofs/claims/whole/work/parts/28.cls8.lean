/-! ===== manAt ===== -/
/-- an object of one of the three kinds of men -/
def aMan (M : ab_M) (x : Nat) : Prop := ∃ (tx : Nat × Nat) (ci : Nat) (fs : List Value), M x = some (tx, .inr (ci, fs)) ∧ (ci = 6 ∨ ci = 8 ∨ ci = 1)
theorem aw_castMan {l : Launch} {g : ab_G} {X : State → Array Value → Prop} {Z : List Frame → Array Value → State → Room → State → Prop} {y : ab_Y} {F Lw kc ks : Nat} {pc : Nat} {L : List (Option Value)} {st : List Value} {M : ab_M} {i a : Nat} (hd : decode y.2.1 pc = .ok (.checkcast i, 3)) (hlink : Cond.classLink y.1.cls i RX5 ∈ ab_T) (h : aMan M a) (kk : AW l g X Z y F Lw kc ks (pc + 3) L (.ref a :: st) M) : AW l g X Z y F Lw kc ks pc L (.ref a :: st) M := by
  obtain ⟨tx, ci, fs, h1, rfl | rfl | rfl⟩ := h
  · exact aw_castS hd hlink h1 (T := TX5) (N := 12) rfl kk
  · exact aw_castY hd hlink nc_1093 h1 (T := TX7) (N := 12) rfl kk
  · exact aw_castY hd hlink nc_1092 h1 (T := TX0) (N := 13) rfl kk
set_option maxRecDepth 100000 in
set_option maxHeartbeats 4000000 in
theorem c_manAt {l : Launch} {g : ab_G} {M : ab_M} {a lf : Nat} {t tl td : Nat × Nat} {v0 v1 v3 v4 v5 v6 v7 v8 : Value} {xs : List Nat} {i : Int32} (ha : M a = some (t, .inr (9, [v0, v1, .ref lf, v3, v4, v5, v6, v7, v8]))) (hL : aL g M lf tl td xs) (hO : ∀ x ∈ xs, aMan M x) : AM l g Y_X8_manAt 3 64 0 0 [.ref a, .int i] M (ab_Qq (fun x M' => x = q_at xs i ∧ M' = M)) := by
  refine AM.of [some (.ref a), some (.int i)] (by decide +kernel) (Nat.le_of_ble_eq_true rfl) rfl ?_
  obtain ⟨u0, u1, hs⟩ := hL.sz
  have hl10 := hL.le
  refine aw_iload_n dX8_manAt_0 rfl ?_
  refine aw_if_lt (tgt := 15) dX8_manAt_1 (by decide) (fun h1 => ?_) (fun h1 => ?_)
  · have hno := q_at_out (xs := xs) (Or.inl h1) hl10
    refine aw_null dX8_manAt_15 ?_
    refine aw_goto (tgt := 30) dX8_manAt_16 (by decide) ?_
    exact aw_qret (x := none) dX8_manAt_30 rfl (Or.inl ⟨_, rfl⟩) ⟨hno.symm, rfl⟩
  · refine aw_iload_n dX8_manAt_4 rfl ?_
    refine aw_aload_n dX8_manAt_5 rfl ?_
    refine aw_get dX8_manAt_6 fg_X8_19_9 ha rfl ?_
    refine aw_V0i (kc' := 0) (ks' := 0) dX8_manAt_9 cs_X8_62_0 hs (j_size hs) rfl (Nat.le_of_ble_eq_true rfl) (fun x9 M9 h9 => ?_)
    obtain ⟨rfl, e9⟩ := h9
    replace e9 := e9.symm
    subst e9
    refine aw_icmp_lt (tgt := 19) dX8_manAt_12 (by decide) (fun h12 => ?_) (fun h12 => ?_)
    · obtain ⟨k, hkl, rfl⟩ := i_nat h1 h12 (by omega)
      have hk : xs[k]? = some (xs[k]) := List.getElem?_eq_getElem hkl
      have hLG := hL.lg hk
      have hx := hO _ (List.getElem_mem hkl)
      refine aw_aload_n dX8_manAt_19 rfl ?_
      refine aw_get dX8_manAt_20 fg_X8_19_9 ha rfl ?_
      refine aw_iload_n dX8_manAt_23 rfl ?_
      refine aw_V1r (kc' := 0) (ks' := 0) dX8_manAt_24 cs_X8_187_0 hs (j_get hLG hk) rfl (Nat.le_of_ble_eq_true rfl) (fun x24 M24 h24 => ?_)
      obtain ⟨rfl, e24⟩ := h24
      replace e24 := e24.symm
      subst e24
      refine aw_castMan dX8_manAt_27 tw_449 hx ?_
      exact aw_qret (x := some _) dX8_manAt_30 rfl (Or.inl ⟨_, rfl⟩) ⟨(q_at_in hk hl10).symm, rfl⟩
    · have hno := q_at_out (xs := xs) (Or.inr h12) hl10
      refine aw_null dX8_manAt_15 ?_
      refine aw_goto (tgt := 30) dX8_manAt_16 (by decide) ?_
      exact aw_qret (x := none) dX8_manAt_30 rfl (Or.inl ⟨_, rfl⟩) ⟨hno.symm, rfl⟩
