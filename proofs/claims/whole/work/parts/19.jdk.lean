/-! ===== the JDK's methods that are reached ===== -/
theorem AM.ofF {l : Launch} {g : ab_G} {y : ab_Y} {F Lw mc ms : Nat} {vs : List Value} {M : ab_M} {Q : Option Value → ab_M → Prop} (L : List (Option Value)) (hy : plainFor y.1 = true) (hn : (lg_sl vs).length ≤ y.2.2.1) (hL : ab_pr 0 L = lv_args 0 vs)
    (h : AW l g ab_X0 (ab_Z g Q) y F Lw mc ms 0 L [] M) : AM l g y F Lw mc ms vs M Q := by
  refine va_MetF (cc := y.2.1) (maxL := y.2.2.1) (ret := y.2.2.2) hy rfl ?_
  intro p e s m args below meth c s₁ B hml hv
  obtain ⟨rfl, hE, hB, hR⟩ := hv
  have hts := atoms_spec (ws := ab_ws y) B.pre
  have hown : s.vm.findClass y.1.cls = some m.cls := findClass_of_methodNamed B.named
  have hl := lv_entry vs (n := y.2.2.1) hn
  rw [lg_entry_eq]
  refine h p e _ s m _ below meth c s.heap [] 0 0 _ ⟨B.exec, B.bytes, hml, hown, fun w hw => hts w (List.mem_cons_of_mem _ hw), B.notSynchronized, B.returns, (name_of_methodNamed B.named B.method).1, trivial, Nat.le_refl _, Nat.le_refl _, hE, hB⟩ ?_ ?_ va_S.rf hR ?_
  · show 0 + mc ≤ mc
    omega
  · show 0 + ms ≤ ms
    omega
  · show lv_has _ _ (ab_pr 0 L)
    rw [hL]
    exact hl
def q_min (a b : Int32) : Int32 := if b < a then b else a
def q_max (a b : Int32) : Int32 := if a < b then b else a
theorem q_min_least {a b : Int32} : q_min a b = q_least a b := by
  unfold q_min q_least
  split <;> split <;> first | rfl | (simp_all [Int32.le_iff_toInt_le, Int32.lt_iff_toInt_lt]; try (apply Int32.toInt_inj.mp; omega); try omega)
/-- cells whose tags S doesn't name stay -/
def KT (S : Nat × Nat → Prop) (M M2 : ab_M) : Prop := ∀ (a : Nat) (t : Nat × Nat) (e : va_E), M a = some (t, e) → ¬ S t → M2 a = some (t, e)
theorem KT.rf {S : Nat × Nat → Prop} {M : ab_M} : KT S M M := fun _ _ _ h _ => h
theorem KT.tr {S : Nat × Nat → Prop} {M M1 M2 : ab_M} (h1 : KT S M M1) (h2 : KT S M1 M2) : KT S M M2 := fun a t e h ht => h2 a t e (h1 a t e h ht) ht
theorem KT.put {S : Nat × Nat → Prop} {M M1 : ab_M} {a : Nat} {t : Nat × Nat} {e0 e : va_E} (h : KT S M M1) (ha : M1 a = some (t, e0)) (ht : S t) : KT S M (ab_set M1 a t e) := by
  intro b t2 e2 hb h2
  refine ab_set_tag ha (h b t2 e2 hb h2) ?_
  intro h3
  rw [h3] at h2
  exact h2 ht
theorem KT.new {S : Nat × Nat → Prop} {M M1 : ab_M} {a : Nat} {t : Nat × Nat} {e : va_E} (h : KT S M M1) (ha : M1 a = none) : KT S M (ab_set M1 a t e) := fun b t2 e2 h1 h2 => ab_set_new ha (h b t2 e2 h1 h2)
theorem KT.wid {S S2 : Nat × Nat → Prop} {M M1 : ab_M} (h : KT S M M1) (hs : ∀ t, S t → S2 t) : KT S2 M M1 := fun a t e h1 h2 => h a t e h1 (fun q => h2 (hs t q))
/-- an object that may lie in a row of Objects -/
def aO (M : ab_M) (x : Nat) (tx : Nat × Nat) : Prop := ∃ (ci : Nat) (fs : List Value) (r : vw_C), M x = some (tx, .inr (ci, fs)) ∧ vwCl[ci]? = some r ∧ Cond.castable r.1 "java/lang/Object" ∈ ab_nest
/-- a list that has grown; a list that has not -/
def LG (g : ab_G) (M : ab_M) (a : Nat) (t td : Nat × Nat) (xs : List Nat) : Prop := ∃ (mc : Int32) (d : Nat) (f : Nat → Option Nat), M a = some (t, .inr (0, [.int mc, .ref d, .int (nI xs.length)])) ∧ M d = some (td, ab_aq g 10 f) ∧ (∀ i, i < 10 → f i = xs[i]?) ∧ xs.length ≤ 10
def LE (g : ab_G) (M : ab_M) (a : Nat) (t : Nat × Nat) : Prop := ∃ mc : Int32, M a = some (t, .inr (0, [.int mc, .ref (ab_e0 g), .int 0]))
theorem LG.keep {g : ab_G} {M M2 : ab_M} {a : Nat} {t td : Nat × Nat} {xs : List Nat} {S : Nat × Nat → Prop} (h : LG g M a t td xs) (hK : KT S M M2) (h1 : ¬ S t) (h2 : ¬ S td) : LG g M2 a t td xs := by
  obtain ⟨mc, d, f, e1, e2, e3⟩ := h
  exact ⟨mc, d, f, hK a t _ e1 h1, hK d td _ e2 h2, e3⟩
theorem LE.keep {g : ab_G} {M M2 : ab_M} {a : Nat} {t : Nat × Nat} {S : Nat × Nat → Prop} (h : LE g M a t) (hK : KT S M M2) (h1 : ¬ S t) : LE g M2 a t := by
  obtain ⟨mc, e1⟩ := h
  exact ⟨mc, hK a t _ e1 h1⟩
set_option maxRecDepth 100000 in
set_option maxHeartbeats 4000000 in
theorem j_min {l : Launch} {g : ab_G} {M : ab_M} {v w : Int32} : AM l g Y_J9_min_7cf53 0 0 0 0 [.int v, .int w] M (ab_Qi (fun x M' => x = q_min v w ∧ M' = M)) := by
  refine AM.ofF [some (.int v), some (.int w)] (by decide +kernel) (Nat.le_of_ble_eq_true rfl) rfl ?_
  refine aw_iload_n dJ9_min_7cf53_0 rfl ?_
  refine aw_iload_n dJ9_min_7cf53_1 rfl ?_
  refine aw_icmp_gt (tgt := 9) dJ9_min_7cf53_2 (by decide) (fun h2 => ?_) (fun h2 => ?_)
  · refine aw_iload_n dJ9_min_7cf53_9 rfl ?_
    exact aw_iret dJ9_min_7cf53_10 rfl ⟨by first | (rw [q_min, if_pos h2]; done) | (rw [q_min, if_neg h2]; done), rfl⟩
  · refine aw_iload_n dJ9_min_7cf53_5 rfl ?_
    refine aw_goto (tgt := 10) dJ9_min_7cf53_6 (by decide) ?_
    exact aw_iret dJ9_min_7cf53_10 rfl ⟨by first | (rw [q_min, if_pos h2]; done) | (rw [q_min, if_neg h2]; done), rfl⟩
set_option maxRecDepth 100000 in
set_option maxHeartbeats 4000000 in
theorem j_max {l : Launch} {g : ab_G} {M : ab_M} {v w : Int32} : AM l g Y_J9_max_7cf53 0 0 0 0 [.int v, .int w] M (ab_Qi (fun x M' => x = q_max v w ∧ M' = M)) := by
  refine AM.ofF [some (.int v), some (.int w)] (by decide +kernel) (Nat.le_of_ble_eq_true rfl) rfl ?_
  refine aw_iload_n dJ9_max_7cf53_0 rfl ?_
  refine aw_iload_n dJ9_max_7cf53_1 rfl ?_
  refine aw_icmp_lt (tgt := 9) dJ9_max_7cf53_2 (by decide) (fun h2 => ?_) (fun h2 => ?_)
  · refine aw_iload_n dJ9_max_7cf53_9 rfl ?_
    exact aw_iret dJ9_max_7cf53_10 rfl ⟨by first | (rw [q_max, if_pos h2]; done) | (rw [q_max, if_neg h2]; done), rfl⟩
  · refine aw_iload_n dJ9_max_7cf53_5 rfl ?_
    refine aw_goto (tgt := 10) dJ9_max_7cf53_6 (by decide) ?_
    exact aw_iret dJ9_max_7cf53_10 rfl ⟨by first | (rw [q_max, if_pos h2]; done) | (rw [q_max, if_neg h2]; done), rfl⟩
set_option maxRecDepth 100000 in
set_option maxHeartbeats 4000000 in
theorem j_chk3 {l : Launch} {g : ab_G} {M : ab_M} {i n : Int32} (h0 : ¬ i < 0) (hn : i < n) : AM l g Y_J3_checkIndex_8e157 0 0 0 0 [.int i, .int n, .null] M (ab_Qi (fun x M' => x = i ∧ M' = M)) := by
  refine AM.of [some (.int i), some (.int n), some (.null)] (by decide +kernel) (Nat.le_of_ble_eq_true rfl) rfl ?_
  refine aw_iload_n dJ3_checkIndex_8e157_0 rfl ?_
  refine aw_if_lt (tgt := 9) dJ3_checkIndex_8e157_1 (by decide) (fun h1 => absurd h1 h0) (fun h1 => ?_)
  refine aw_iload_n dJ3_checkIndex_8e157_4 rfl ?_
  refine aw_iload_n dJ3_checkIndex_8e157_5 rfl ?_
  refine aw_icmp_lt (tgt := 16) dJ3_checkIndex_8e157_6 (by decide) (fun h6 => ?_) (fun h6 => absurd hn h6)
  refine aw_iload_n dJ3_checkIndex_8e157_16 rfl ?_
  exact aw_iret dJ3_checkIndex_8e157_17 rfl ⟨rfl, rfl⟩
set_option maxRecDepth 100000 in
set_option maxHeartbeats 4000000 in
theorem j_chk {l : Launch} {g : ab_G} {M : ab_M} {i n : Int32} (h0 : ¬ i < 0) (hn : i < n) : AM l g Y_J15_checkIndex_7cf53 1 22 0 0 [.int i, .int n] M (ab_Qi (fun x M' => x = i ∧ M' = M)) := by
  refine AM.of [some (.int i), some (.int n)] (by decide +kernel) (Nat.le_of_ble_eq_true rfl) rfl ?_
  refine aw_iload_n dJ15_checkIndex_7cf53_0 rfl ?_
  refine aw_iload_n dJ15_checkIndex_7cf53_1 rfl ?_
  refine aw_null dJ15_checkIndex_7cf53_2 ?_
  refine aw_S3i (kc' := 0) (ks' := 0) dJ15_checkIndex_7cf53_3 cs_J15_105 (j_chk3 h0 hn) rfl (Nat.le_of_ble_eq_true rfl) (fun x3 M3 h3 => ?_)
  obtain ⟨rfl, e3⟩ := h3
  replace e3 := e3.symm
  subst e3
  exact aw_iret dJ15_checkIndex_7cf53_6 rfl ⟨rfl, rfl⟩
set_option maxRecDepth 100000 in
set_option maxHeartbeats 4000000 in
theorem j_size {l : Launch} {g : ab_G} {M : ab_M} {a : Nat} {t : Nat × Nat} {v0 v1 : Value} {n : Int32} (ha : M a = some (t, .inr (0, [v0, v1, .int n]))) : AM l g Y_Jx4a65c_size_8abf5 0 0 0 0 [.ref a] M (ab_Qi (fun x M' => x = n ∧ M' = M)) := by
  refine AM.of [some (.ref a)] (by decide +kernel) (Nat.le_of_ble_eq_true rfl) rfl ?_
  refine aw_aload_n dJx4a65c_size_8abf5_0 rfl ?_
  refine aw_get dJx4a65c_size_8abf5_1 fg_Jx4a65c_48_0 ha rfl ?_
  exact aw_iret dJx4a65c_size_8abf5_4 rfl ⟨rfl, rfl⟩
set_option maxRecDepth 100000 in
set_option maxHeartbeats 4000000 in
theorem j_isEmpty {l : Launch} {g : ab_G} {M : ab_M} {a : Nat} {t : Nat × Nat} {v0 v1 : Value} {n : Int32} (ha : M a = some (t, .inr (0, [v0, v1, .int n]))) : AM l g Y_Jx4a65c_isEmpty_aae02 0 0 0 0 [.ref a] M (ab_Qi (fun x M' => x = b2i (decide (n = 0)) ∧ M' = M)) := by
  refine AM.of [some (.ref a)] (by decide +kernel) (Nat.le_of_ble_eq_true rfl) rfl ?_
  refine aw_aload_n dJx4a65c_isEmpty_aae02_0 rfl ?_
  refine aw_get dJx4a65c_isEmpty_aae02_1 fg_Jx4a65c_48_0 ha rfl ?_
  refine aw_if_ne (tgt := 11) dJx4a65c_isEmpty_aae02_4 (by decide) (fun h4 => ?_) (fun h4 => ?_)
  · refine aw_iconst (v := 0) dJx4a65c_isEmpty_aae02_11 (by decide) ?_
    exact aw_zret dJx4a65c_isEmpty_aae02_12 rfl rfl ⟨by simp [b2i, h4], rfl⟩
  · refine aw_iconst (v := 1) dJx4a65c_isEmpty_aae02_7 (by decide) ?_
    refine aw_goto (tgt := 12) dJx4a65c_isEmpty_aae02_8 (by decide) ?_
    exact aw_zret dJx4a65c_isEmpty_aae02_12 rfl rfl ⟨by simp [b2i, h4], rfl⟩
set_option maxRecDepth 100000 in
set_option maxHeartbeats 4000000 in
theorem j_elem {l : Launch} {g : ab_G} {M : ab_M} {a d x : Nat} {t td : Nat × Nat} {v0 v2 : Value} {f : Nat → Option Nat} {i : Int32} (ha : M a = some (t, .inr (0, [v0, .ref d, v2]))) (hdd : M d = some (td, ab_aq g 10 f)) (hi : vp_in i 10) (hx : f i.toNatClampNeg = some x) : AM l g Y_Jx4a65c_elementData_915e3 0 0 0 0 [.ref a, .int i] M (ab_Qr (fun y M' => y = x ∧ M' = M)) := by
  refine AM.of [some (.ref a), some (.int i)] (by decide +kernel) (Nat.le_of_ble_eq_true rfl) rfl ?_
  refine aw_aload_n dJx4a65c_elementData_915e3_0 rfl ?_
  refine aw_get dJx4a65c_elementData_915e3_1 fg_Jx4a65c_9_0 ha rfl ?_
  refine aw_iload_n dJx4a65c_elementData_915e3_4 rfl ?_
  refine aw_aald dJx4a65c_elementData_915e3_5 hdd (by first | assumption | (unfold vp_in; decide)) hx ?_
  exact aw_rret dJx4a65c_elementData_915e3_6 rfl (Or.inl ⟨_, rfl⟩) ⟨rfl, rfl⟩
set_option maxRecDepth 100000 in
set_option maxHeartbeats 4000000 in
theorem j_get {l : Launch} {g : ab_G} {M : ab_M} {a x k : Nat} {t td : Nat × Nat} {xs : List Nat} (hL : LG g M a t td xs) (hk : xs[k]? = some x) : AM l g Y_Jx4a65c_get_915e3 2 43 0 0 [.ref a, .int (nI k)] M (ab_Qr (fun y M' => y = x ∧ M' = M)) := by
  refine AM.of [some (.ref a), some (.int (nI k))] (by decide +kernel) (Nat.le_of_ble_eq_true rfl) rfl ?_
  obtain ⟨mc, d, f, ha, hdd, hf, hn⟩ := hL
  have hkl : k < xs.length := (List.getElem?_eq_some_iff.mp hk).1
  refine aw_iload_n dJx4a65c_get_915e3_0 rfl ?_
  refine aw_aload_n dJx4a65c_get_915e3_1 rfl ?_
  refine aw_get dJx4a65c_get_915e3_2 fg_Jx4a65c_48_0 ha rfl ?_
  refine aw_S2i (kc' := 0) (ks' := 0) dJx4a65c_get_915e3_5 cs_Jx4a65c_118 (j_chk (nI_pos (by omega)) (nI_lt hkl (by omega))) rfl (Nat.le_of_ble_eq_true rfl) (fun x5 M5 h5 => ?_)
  obtain ⟨rfl, e5⟩ := h5
  replace e5 := e5.symm
  subst e5
  refine aw_pop dJx4a65c_get_915e3_8 rfl ?_
  refine aw_aload_n dJx4a65c_get_915e3_9 rfl ?_
  refine aw_iload_n dJx4a65c_get_915e3_10 rfl ?_
  refine aw_V1r (kc' := 0) (ks' := 0) dJx4a65c_get_915e3_11 cs_Jx4a65c_123_0 ha (j_elem ha hdd (vp_in_nI (by omega) (by omega)) (by rw [nI_cl (by omega), hf k (by omega)]; exact hk)) rfl (Nat.le_of_ble_eq_true rfl) (fun x11 M11 h11 => ?_)
  obtain ⟨rfl, e11⟩ := h11
  replace e11 := e11.symm
  subst e11
  exact aw_rret dJx4a65c_get_915e3_14 rfl (Or.inl ⟨_, rfl⟩) ⟨rfl, rfl⟩
set_option maxRecDepth 100000 in
set_option maxHeartbeats 4000000 in
theorem j_add3 {l : Launch} {g : ab_G} {M : ab_M} {a d x k ci : Nat} {t td tx : Nat × Nat} {v0 : Value} {f : Nat → Option Nat} {fs : List Value} {r : vw_C} {n : Int32} (ht : t ≠ td) (ha : M a = some (t, .inr (0, [v0, .ref d, .int n]))) (hdd : M d = some (td, ab_aq g 10 f)) (hk : k < 10) (hx : M x = some (tx, .inr (ci, fs))) (hr : vwCl[ci]? = some r) (hca : Cond.castable r.1 "java/lang/Object" ∈ ab_nest) : AM l g Y_Jx4a65c_add_72be8 3 64 0 0 [.ref a, .ref x, .ref d, .int (nI k)] M (ab_Qv (fun M' => M' = ab_set (ab_set M d td (ab_aq g 10 (va_up f k (some x)))) a t (.inr (0, [v0, .ref d, .int (nI (k + 1))])))) := by
  refine AM.of [some (.ref a), some (.ref x), some (.ref d), some (.int (nI k))] (by decide +kernel) (Nat.le_of_ble_eq_true rfl) rfl ?_
  have hin : vp_in (nI k) 10 := vp_in_nI hk (by omega)
  have hcl := nI_cl (n := k) (by omega)
  refine aw_iload_n dJx4a65c_add_72be8_0 rfl ?_
  refine aw_aload_n dJx4a65c_add_72be8_1 rfl ?_
  refine aw_alen dJx4a65c_add_72be8_2 hdd 3 rfl rfl ?_
  refine aw_icmp_ne (tgt := 11) dJx4a65c_add_72be8_3 (by decide) (fun h3 => ?_) (fun h3 => absurd (show nI k = nI 10 from h3) (by rw [nI_eq_iff (by omega) (by omega)]; omega))
  refine aw_aload_n dJx4a65c_add_72be8_11 rfl ?_
  refine aw_iload_n dJx4a65c_add_72be8_12 rfl ?_
  refine aw_aload_n dJx4a65c_add_72be8_13 rfl ?_
  refine aw_aast dJx4a65c_add_72be8_14 hdd hx hr hca hin ?_
  refine aw_aload_n dJx4a65c_add_72be8_15 rfl ?_
  refine aw_iload_n dJx4a65c_add_72be8_16 rfl ?_
  refine aw_iconst (v := 1) dJx4a65c_add_72be8_17 (by decide) ?_
  refine aw_iadd dJx4a65c_add_72be8_18 ?_
  refine aw_put dJx4a65c_add_72be8_19 fl_Jx4a65c_48_0 (ab_set_tag hdd ha ht) rfl rfl (Nat.le_of_ble_eq_true rfl) ?_
  exact aw_vret dJx4a65c_add_72be8_22 rfl (by rw [← nI_1 k, hcl]; rfl)
set_option maxRecDepth 100000 in
set_option maxHeartbeats 4000000 in
theorem j_add {l : Launch} {g : ab_G} {M : ab_M} {a x : Nat} {t td tx : Nat × Nat} {xs : List Nat} (ht : t ≠ td) (hL : LG g M a t td xs) (hl : xs.length < 10) (hx : aO M x tx) (htx : tx ≠ t) : AM l g Y_Jx4a65c_add_9ea2d 4 87 0 0 [.ref a, .ref x] M (ab_Qi (fun y M' => y = 1 ∧ LG g M' a t td (xs ++ [x]) ∧ KT (fun q => q = t ∨ q = td) M M')) := by
  refine AM.of [some (.ref a), some (.ref x)] (by decide +kernel) (Nat.le_of_ble_eq_true rfl) rfl ?_
  obtain ⟨mc, d, f, ha, hdd, hf, hn⟩ := hL
  obtain ⟨ci, fs, r, hx, hr, hca⟩ := hx
  refine aw_aload_n dJx4a65c_add_9ea2d_0 rfl ?_
  refine aw_dup dJx4a65c_add_9ea2d_1 rfl ?_
  refine aw_get dJx4a65c_add_9ea2d_2 fg_Jx4a65c_63_0 ha rfl ?_
  refine aw_iconst (v := 1) dJx4a65c_add_9ea2d_5 (by decide) ?_
  refine aw_iadd dJx4a65c_add_9ea2d_6 ?_
  refine aw_put dJx4a65c_add_9ea2d_7 fl_Jx4a65c_63_0 ha rfl rfl (Nat.le_of_ble_eq_true rfl) ?_
  refine aw_aload_n dJx4a65c_add_9ea2d_10 rfl ?_
  refine aw_aload_n dJx4a65c_add_9ea2d_11 rfl ?_
  refine aw_aload_n dJx4a65c_add_9ea2d_12 rfl ?_
  refine aw_get dJx4a65c_add_9ea2d_13 fg_Jx4a65c_9_0 ab_set_self rfl ?_
  refine aw_aload_n dJx4a65c_add_9ea2d_16 rfl ?_
  refine aw_get dJx4a65c_add_9ea2d_17 fg_Jx4a65c_48_0 ab_set_self rfl ?_
  refine aw_V3v (kc' := 0) (ks' := 0) dJx4a65c_add_9ea2d_20 cs_Jx4a65c_131_0 ab_set_self (j_add3 ht ab_set_self (ab_set_tag ha hdd (Ne.symm ht)) hl (ab_set_tag ha hx htx) hr hca) rfl (Nat.le_of_ble_eq_true rfl) (fun M20 h20 => ?_)
  subst h20
  refine aw_iconst (v := 1) dJx4a65c_add_9ea2d_23 (by decide) ?_
  exact aw_zret dJx4a65c_add_9ea2d_24 rfl rfl ⟨rfl, ⟨mc + 1, d, va_up f xs.length (some x), by rw [List.length_append]; exact ab_set_self, ab_set_tag (e0 := .inr (0, [.int (mc + 1), .ref d, .int (nI xs.length)])) (ab_set_tag (ab_set_tag ha hdd (Ne.symm ht)) ab_set_self ht) ab_set_self (Ne.symm ht), fun i hi => by
        by_cases h : i = xs.length
        · subst h
          rw [va_up_self]
          simp
        · rw [va_up_ne _ _ h, hf i hi, List.getElem?_append]
          split
          · rfl
          · rw [List.getElem?_eq_none (by omega)]
            rw [List.getElem?_eq_none (by simp; omega)], by simp; omega⟩, ((KT.rf.put ha (Or.inl rfl)).put (ab_set_tag ha hdd (Ne.symm ht)) (Or.inr rfl)).put (ab_set_tag (ab_set_tag ha hdd (Ne.symm ht)) ab_set_self ht) (Or.inl rfl)⟩
def q_fmod (a m : Int32) : Int32 := if 0 ≤ a ^^^ m then a - a / m * m else if a - a / m * m = 0 then a - a / m * m else a - a / m * m + m
set_option maxRecDepth 100000 in
set_option maxHeartbeats 4000000 in
theorem j_fmod {l : Launch} {g : ab_G} {M : ab_M} {v w : Int32} (hw : ¬ w = 0) : AM l g Y_J9_floorMod_7cf53 0 0 0 0 [.int v, .int w] M (ab_Qi (fun x M' => x = q_fmod v w ∧ M' = M)) := by
  refine AM.ofF [some (.int v), some (.int w), none] (by decide +kernel) (Nat.le_of_ble_eq_true rfl) rfl ?_
  refine aw_iload_n dJ9_floorMod_7cf53_0 rfl ?_
  refine aw_iload_n dJ9_floorMod_7cf53_1 rfl ?_
  refine aw_irem dJ9_floorMod_7cf53_2 hw ?_
  refine aw_istore_n dJ9_floorMod_7cf53_3 rfl (by decide) ?_
  refine aw_iload_n dJ9_floorMod_7cf53_4 rfl ?_
  refine aw_iload_n dJ9_floorMod_7cf53_5 rfl ?_
  refine aw_ixor dJ9_floorMod_7cf53_6 ?_
  refine aw_if_ge (tgt := 18) dJ9_floorMod_7cf53_7 (by decide) (fun h7 => ?_) (fun h7 => ?_)
  · refine aw_iload_n dJ9_floorMod_7cf53_18 rfl ?_
    exact aw_iret dJ9_floorMod_7cf53_19 rfl ⟨by first | (rw [q_fmod, if_pos h7]; done) | (rw [q_fmod, if_neg h7, if_pos h11]; done) | (rw [q_fmod, if_neg h7, if_neg h11]; done), rfl⟩
  · refine aw_iload_n dJ9_floorMod_7cf53_10 rfl ?_
    refine aw_if_eq (tgt := 18) dJ9_floorMod_7cf53_11 (by decide) (fun h11 => ?_) (fun h11 => ?_)
    · refine aw_iload_n dJ9_floorMod_7cf53_18 rfl ?_
      exact aw_iret dJ9_floorMod_7cf53_19 rfl ⟨by first | (rw [q_fmod, if_pos h7]; done) | (rw [q_fmod, if_neg h7, if_pos h11]; done) | (rw [q_fmod, if_neg h7, if_neg h11]; done), rfl⟩
    · refine aw_iload_n dJ9_floorMod_7cf53_14 rfl ?_
      refine aw_iload_n dJ9_floorMod_7cf53_15 rfl ?_
      refine aw_iadd dJ9_floorMod_7cf53_16 ?_
      exact aw_iret dJ9_floorMod_7cf53_17 rfl ⟨by first | (rw [q_fmod, if_pos h7]; done) | (rw [q_fmod, if_neg h7, if_pos h11]; done) | (rw [q_fmod, if_neg h7, if_neg h11]; done), rfl⟩
theorem ab_set_set {M : ab_M} {a : Nat} {t : Nat × Nat} {e e2 : va_E} : ab_set (ab_set M a t e) a t e2 = ab_set M a t e2 := by
  funext q
  by_cases h : q = a <;> simp [ab_set, h]
theorem ab_set_id {M : ab_M} {a : Nat} {t : Nat × Nat} {e : va_E} (h : M a = some (t, e)) : ab_set M a t e = M := by
  funext q
  by_cases h2 : q = a
  · subst h2
    rw [ab_set_self, h]
  · rw [ab_set_ne h2]
set_option maxRecDepth 100000 in
set_option maxHeartbeats 4000000 in
theorem j_fill {l : Launch} {g : ab_G} {M : ab_M} {a n : Nat} {t : Nat × Nat} {f : Nat → Int32} {v : Int32} (hn : n < 1000) (ha : M a = some (t, ab_ai g n f)) : AM l g Y_J7_fill_53178 0 0 0 0 [.ref a, .int v] M (ab_Qv (fun M' => M' = ab_set M a t (ab_ai g n (lp (k_put v) 0 n f)))) := by
  refine AM.of [some (.ref a), some (.int v), none, none] (by decide +kernel) (Nat.le_of_ble_eq_true rfl) rfl ?_
  refine aw_iconst (v := 0) dJ7_fill_53178_0 (by decide) ?_
  refine aw_istore_n dJ7_fill_53178_1 rfl (by decide) ?_
  refine aw_aload_n dJ7_fill_53178_2 rfl ?_
  refine aw_alen dJ7_fill_53178_3 ha 0 rfl rfl ?_
  refine aw_istore_n dJ7_fill_53178_4 rfl (by decide) ?_
  refine gl (fun s M9 => M9 = ab_set M a t (ab_ai g n s)) (fun i s M9 => AW l g ab_X0 (ab_Z g (ab_Qv (fun M' => M' = ab_set M a t (ab_ai g n (lp (k_put v) 0 n f))))) Y_J7_fill_53178 0 0 0 0 5 [some (.ref a), some (.int v), some (.int (nI i)), some (.int (nI n))] [] M9) (k_put v) (fun _ _ => True) n (fun _ _ _ _ => trivial) ?_ n 0 f M (Nat.zero_add _) trivial (ab_set_id ha).symm ?_
  · intro i s M9 h1 _ hp9 kk
    subst hp9
    have hi : vp_in (nI i) n := vp_in_nI h1 (by omega)
    have hcl := nI_cl (n := i) (by omega)
    refine aw_iload_n dJ7_fill_53178_5 rfl ?_
    refine aw_iload_n dJ7_fill_53178_6 rfl ?_
    refine aw_icmp_ge (tgt := 20) dJ7_fill_53178_7 (by decide) (fun h7 => absurd h7 (nI_ge h1 (by omega))) (fun h7 => ?_)
    refine aw_aload_n dJ7_fill_53178_10 rfl ?_
    refine aw_iload_n dJ7_fill_53178_11 rfl ?_
    refine aw_iload_n dJ7_fill_53178_12 rfl ?_
    refine aw_iast dJ7_fill_53178_13 ab_set_self (by first | assumption | (unfold vp_in; decide)) ?_
    refine aw_iinc dJ7_fill_53178_14 rfl (ii_1 i) rfl (by decide) ?_
    refine aw_goto (tgt := 5) dJ7_fill_53178_17 (by decide) ?_
    exact kk _ (by rw [ab_set_set, hcl]; rfl) trivial
  · intro M9 hp9 _
    subst hp9
    refine aw_iload_n dJ7_fill_53178_5 rfl ?_
    refine aw_iload_n dJ7_fill_53178_6 rfl ?_
    refine aw_icmp_ge (tgt := 20) dJ7_fill_53178_7 (by decide) (fun h7 => ?_) (fun h7 => absurd (Int32.le_refl _) h7)
    exact aw_vret dJ7_fill_53178_20 rfl rfl
set_option maxRecDepth 100000 in
set_option maxHeartbeats 4000000 in
theorem j_ac {l : Launch} {g : ab_G} {M : ab_M} {a : Nat} : AM l g Y_Jxa1e45_init_da8c8 1 20 0 0 [.ref a] M (ab_Qv (fun M' => M' = M)) := by
  refine AM.of [some (.ref a)] (by decide +kernel) (Nat.le_of_ble_eq_true rfl) rfl ?_
  refine aw_aload_n dJxa1e45_init_da8c8_0 rfl ?_
  refine aw_objInit dJxa1e45_init_da8c8_1 tw_80 tw_67 tw_68 (by decide) (Nat.le_of_ble_eq_true rfl) ?_
  exact aw_vret dJxa1e45_init_da8c8_4 rfl rfl
set_option maxRecDepth 100000 in
set_option maxHeartbeats 4000000 in
theorem j_al {l : Launch} {g : ab_G} {M : ab_M} {a : Nat} {t : Nat × Nat} {v0 v1 v2 : Value} (ha : M a = some (t, .inr (0, [v0, v1, v2]))) : AM l g Y_Jxc12de_init_da8c8 2 40 0 0 [.ref a] M (ab_Qv (fun M' => M' = ab_set M a t (.inr (0, [.int 0, v1, v2])))) := by
  refine AM.of [some (.ref a)] (by decide +kernel) (Nat.le_of_ble_eq_true rfl) rfl ?_
  refine aw_aload_n dJxc12de_init_da8c8_0 rfl ?_
  refine aw_I0v (kc' := 0) (ks' := 0) dJxc12de_init_da8c8_1 cs_Jxc12de_1 j_ac rfl (Nat.le_of_ble_eq_true rfl) (fun M1 h1 => ?_)
  subst h1
  refine aw_aload_n dJxc12de_init_da8c8_4 rfl ?_
  refine aw_iconst (v := 0) dJxc12de_init_da8c8_5 (by decide) ?_
  refine aw_put dJxc12de_init_da8c8_6 fl_Jxc12de_7_0 ha rfl rfl (Nat.le_of_ble_eq_true rfl) ?_
  exact aw_vret dJxc12de_init_da8c8_9 rfl rfl
set_option maxRecDepth 100000 in
set_option maxHeartbeats 4000000 in
theorem j_init {l : Launch} {g : ab_G} {M : ab_M} {a : Nat} {t : Nat × Nat} {v0 v1 : Value} (ha : M a = some (t, .inr (0, [v0, v1, .int 0]))) : AM l g Y_Jx4a65c_init_da8c8 3 60 0 0 [.ref a] M (ab_Qv (fun M' => M' = ab_set M a t (.inr (0, [.int 0, .ref (ab_e0 g), .int 0])))) := by
  refine AM.of [some (.ref a)] (by decide +kernel) (Nat.le_of_ble_eq_true rfl) rfl ?_
  refine aw_aload_n dJx4a65c_init_da8c8_0 rfl ?_
  refine aw_I0v (kc' := 0) (ks' := 0) dJx4a65c_init_da8c8_1 cs_Jx4a65c_1 (j_al ha) rfl (Nat.le_of_ble_eq_true rfl) (fun M1 h1 => ?_)
  subst h1
  refine aw_aload_n dJx4a65c_init_da8c8_4 rfl ?_
  refine aw_gets0 dJx4a65c_init_da8c8_5 tw_81 ?_
  refine aw_put dJx4a65c_init_da8c8_8 fl_Jx4a65c_9_0 ab_set_self rfl rfl (Nat.le_of_ble_eq_true rfl) ?_
  exact aw_vret dJx4a65c_init_da8c8_11 rfl (by rw [ab_set_set]; rfl)
