/-! ===== the class over its state: rows of men ===== -/
theorem erase_at {ls : List Nat} {p m : Nat} (hp : p < ls.length) (h1 : ∀ q, q < p → ls[q]? ≠ some m) (h2 : ls[p]? = some m) : ls.erase m = ls.eraseIdx p := by
  induction ls generalizing p with
  | nil => simp at hp
  | cons a ls ih =>
    cases p with
    | zero =>
      simp at h2
      subst h2
      simp
    | succ p =>
      have ha : a ≠ m := by
        have := h1 0 (by omega)
        simpa using this
      rw [List.erase_cons_tail (by simpa using ha), List.eraseIdx_cons_succ]
      congr 1
      refine ih (by simpa using hp) (fun q hq => ?_) (by simpa using h2)
      have := h1 (q + 1) (by omega)
      simpa using this
theorem erase_no {ls : List Nat} {m : Nat} (h : ∀ q, q < ls.length → ls[q]? ≠ some m) : ls.erase m = ls := by
  refine List.erase_of_not_mem (fun hm => ?_)
  obtain ⟨q, hq, e⟩ := List.getElem_of_mem hm
  exact h q hq (by rw [List.getElem?_eq_getElem hq, e])
theorem cw_id {κ : cS} {i : Nat} : cw κ i (κ.2.1 i) = κ := by
  unfold cw
  have : (fun k => if k = i then κ.2.1 i else κ.2.1 k) = κ.2.1 := by
    funext k
    split
    · next e => rw [e]
    · rfl
  rw [this]
theorem cOs {g : ab_G} {M : ab_M} {α : Nat → Nat → Nat} {nf nj nm i : Nat} {κ : cS} (hC : CC g M α nf nj nm κ) {ls : List Nat} (h : ∀ x ∈ ls, x < nm) : aOs M (11, i) (12, i) (ls.map (α 15)) := by
  intro x hx
  obtain ⟨m, hm, rfl⟩ := List.mem_map.mp hx
  exact ⟨_, cOm hC (h m hm), by simp, by simp⟩
theorem map_erase_at {ls : List Nat} {p : Nat} {f : Nat → Nat} : (ls.eraseIdx p).map f = (ls.map f).eraseIdx p := by
  induction ls generalizing p with
  | nil => simp
  | cons a ls ih => cases p <;> simp [ih]
set_option maxRecDepth 100000 in
set_option maxHeartbeats 4000000 in
theorem c_leaveRow {l : Launch} {g : ab_G} {M : ab_M} {α : Nat → Nat → Nat} {nf nj nm : Nat} {κ : cS} (hC : CC g M α nf nj nm κ) (hI : cI0 nf nj nm κ) {m : Nat} (hm : m < nm) (hW : ∀ x ∈ κ.2.1 (κ.1.2.1 15 m).toNatClampNeg, x < nm) : AM l g Y_X5_leaveRow 3 86 0 0 [.ref (α 15 m)] M (ab_Qv (fun M' => CC g M' α nf nj nm (g_leave κ m) ∧ KH M M')) := by
  refine AM.of [some (.ref (α 15 m)), none, none] (by decide +kernel) (Nat.le_of_ble_eq_true rfl) rfl ?_
  obtain ⟨fi, hfi, efi⟩ := hI.2.2.1 m hm
  obtain ⟨ji, hji, eji⟩ := hI.2.2.2.1 m hm
  have hb := hI.1
  have hK : KH M M := KT.rf
  rw [efi, nI_cl (show fi < 2 ^ 31 by omega)] at hW
  obtain ⟨u0, u1, hs⟩ := (hC.2.2.2.2.2.2.2.2.2 fi hfi).1.sz
  rw [List.length_map] at hs
  have hl10 := (hC.2.2.2.2.2.2.2.2.2 fi hfi).1.le
  rw [List.length_map] at hl10
  have key : ∀ (n p : Nat), p + n = (κ.2.1 fi).length → (∀ q, q < p → (κ.2.1 fi)[q]? ≠ some m) → AW l g ab_X0 (ab_Z g (ab_Qv (fun M' => CC g M' α nf nj nm (g_leave κ m) ∧ KH M M'))) Y_X5_leaveRow 3 86 0 0 10 [some (.ref (α 15 m)), some (.ref (α 11 fi)), some (.int (nI p))] [] M := by
    intro n
    induction n with
    | zero =>
      intro p hp hno
      have hpl : p = (κ.2.1 fi).length := by omega
      subst hpl
      refine aw_iload_n dX5_leaveRow_10 rfl ?_
      refine aw_aload_n dX5_leaveRow_11 rfl ?_
      refine aw_V0i (kc' := 0) (ks' := 0) dX5_leaveRow_12 cs_X5_91_0 hs (j_size hs) rfl (Nat.le_of_ble_eq_true rfl) (fun x12 M12 h12 => ?_)
      obtain ⟨rfl, e12⟩ := h12
      replace e12 := e12.symm
      subst e12
      refine aw_icmp_ge (tgt := 40) dX5_leaveRow_15 (by decide) (fun h15 => ?_) (fun h15 => absurd (Int32.le_refl _) h15)
      exact aw_vret dX5_leaveRow_40 rfl ⟨by rw [g_leave, efi, nI_cl (show fi < 2 ^ 31 by omega), erase_no hno, cw_id]; exact hC, hK⟩
    | succ n ih =>
      intro p hp hno
      have hpl : p < (κ.2.1 fi).length := by omega
      have hk : (κ.2.1 fi)[p]? = some ((κ.2.1 fi)[p]) := List.getElem?_eq_getElem hpl
      have hx := hW _ (List.getElem_mem hpl)
      generalize (κ.2.1 fi)[p] = x at hk hx
      have hk2 : ((κ.2.1 fi).map (α 15))[p]? = some (α 15 x) := by rw [List.getElem?_map, hk]; rfl
      have hLG := (hC.2.2.2.2.2.2.2.2.2 fi hfi).1.lg hk2
      refine aw_iload_n dX5_leaveRow_10 rfl ?_
      refine aw_aload_n dX5_leaveRow_11 rfl ?_
      refine aw_V0i (kc' := 0) (ks' := 0) dX5_leaveRow_12 cs_X5_91_0 hs (j_size hs) rfl (Nat.le_of_ble_eq_true rfl) (fun x12 M12 h12 => ?_)
      obtain ⟨rfl, e12⟩ := h12
      replace e12 := e12.symm
      subst e12
      refine aw_icmp_ge (tgt := 40) dX5_leaveRow_15 (by decide) (fun h15 => absurd (nI_lt hpl (by omega)) (Int32.not_lt.mpr h15)) (fun h15 => ?_)
      refine aw_aload_n dX5_leaveRow_18 rfl ?_
      refine aw_iload_n dX5_leaveRow_19 rfl ?_
      refine aw_V1r (kc' := 0) (ks' := 0) dX5_leaveRow_20 cs_X5_95_0 hs (j_get hLG hk2) rfl (Nat.le_of_ble_eq_true rfl) (fun x20 M20 h20 => ?_)
      obtain ⟨rfl, e20⟩ := h20
      replace e20 := e20.symm
      subst e20
      refine aw_aload_n dX5_leaveRow_23 rfl ?_
      refine aw_acmp_ne (tgt := 34) dX5_leaveRow_24 (by decide) (fun h24 => ?_) (fun h24 => ?_)
      · refine aw_iinc dX5_leaveRow_34 rfl (ii_1 p) rfl (by decide) ?_
        refine aw_goto (tgt := 10) dX5_leaveRow_37 (by decide) ?_
        refine ih (p + 1) (by omega) (fun q hq => ?_)
        by_cases e : q = p
        · subst e
          rw [hk]
          exact fun h => h24 (congrArg (α 15) (Option.some.inj h))
        · exact hno q (by omega)
      · refine aw_aload_n dX5_leaveRow_27 rfl ?_
        refine aw_iload_n dX5_leaveRow_28 rfl ?_
        refine aw_V1r (kc' := 0) (ks' := 0) dX5_leaveRow_29 cs_X5_99_0 hs (j_remove (by simp) hLG hk2 (cOs hC hW)) rfl (Nat.le_of_ble_eq_true rfl) (fun x29 M29 h29 => ?_)
        obtain ⟨rfl, h1, h2⟩ := h29
        have e2 := m_inj hC hm hx h24
        subst e2
        replace hC := cset_row hC hfi h2 (ls := (κ.2.1 fi).erase x) (by rw [erase_at hpl hno hk, map_erase_at]; exact h1)
        replace hK := hK.tr (h2.wid (fun t h => rowT h))
        refine aw_pop dX5_leaveRow_32 rfl ?_
        exact aw_vret dX5_leaveRow_33 rfl ⟨by rw [g_leave, efi, nI_cl (show fi < 2 ^ 31 by omega)]; exact hC, hK⟩
  refine aw_aload_n dX5_leaveRow_0 rfl ?_
  refine cw_gM2 dX5_leaveRow_1 (fM_X5_42 _) hC hm efi (by omega) ?_
  refine aw_get dX5_leaveRow_4 fg_X5_79_3 (gF hC hfi) rfl ?_
  refine aw_astore_n dX5_leaveRow_7 rfl (by decide) ?_
  refine aw_iconst (v := 0) dX5_leaveRow_8 (by decide) ?_
  refine aw_istore_n dX5_leaveRow_9 rfl (by decide) ?_
  exact key (κ.2.1 fi).length 0 (by omega) (fun q hq => absurd hq (by omega))
def q_nx (κ : cS) : List Nat → Option Nat → Option Nat
  | [], s => s
  | x :: xs, none => q_nx κ xs (some x)
  | x :: xs, some y => q_nx κ xs (if κ.1.2.1 17 x ≤ κ.1.2.1 17 y then some y else some x)
set_option maxRecDepth 100000 in
set_option maxHeartbeats 4000000 in
theorem c_nextToFill {l : Launch} {g : ab_G} {M : ab_M} {α : Nat → Nat → Nat} {nf nj nm : Nat} {κ : cS} (hC : CC g M α nf nj nm κ) (hI : cI0 nf nj nm κ) {i : Nat} (hi : i < nf) (hW : ∀ x ∈ κ.2.1 i, x < nm) : AM l g Y_X2_nextToFill 3 64 0 0 [.ref (α 10 i)] M (ab_Qq (fun x M' => x = (q_nx κ (κ.2.1 i) none).map (α 15) ∧ M' = M)) := by
  refine AM.of [some (.ref (α 10 i)), none, none, none] (by decide +kernel) (Nat.le_of_ble_eq_true rfl) rfl ?_
  have hb := hI.1
  obtain ⟨u0, u1, hs⟩ := (hC.2.2.2.2.2.2.2.2.2 i hi).1.sz
  rw [List.length_map] at hs
  have hl10 := (hC.2.2.2.2.2.2.2.2.2 i hi).1.le
  rw [List.length_map] at hl10
  have key : ∀ (rest pre : List Nat) (s : Option Nat), κ.2.1 i = pre ++ rest → (∀ y, s = some y → y < nm) → q_nx κ rest s = q_nx κ (κ.2.1 i) none → ∀ z3 : Option Value, AW l g ab_X0 (ab_Z g (ab_Qq (fun x M' => x = (q_nx κ (κ.2.1 i) none).map (α 15) ∧ M' = M))) Y_X2_nextToFill 3 64 0 0 4 [some (.ref (α 10 i)), some (va_rf (s.map (α 15))), some (.int (nI pre.length)), z3] [] M := by
    intro rest
    induction rest with
    | nil =>
      intro pre s e hs9 hq z3
      have hpl : (κ.2.1 i).length = pre.length := by rw [e]; simp
      rw [hpl] at hs
      rw [← hq]
      refine aw_iload_n dX2_nextToFill_4 rfl ?_
      refine aw_aload_n dX2_nextToFill_5 rfl ?_
      refine aw_get dX2_nextToFill_6 fg_X2_10_3 (gF hC hi) rfl ?_
      refine aw_V0i (kc' := 0) (ks' := 0) dX2_nextToFill_9 cs_X2_33_0 hs (j_size hs) rfl (Nat.le_of_ble_eq_true rfl) (fun x9 M9 h9 => ?_)
      obtain ⟨rfl, e9⟩ := h9
      replace e9 := e9.symm
      subst e9
      refine aw_icmp_ge (tgt := 50) dX2_nextToFill_12 (by decide) (fun h12 => ?_) (fun h12 => absurd (Int32.le_refl _) h12)
      cases s with
      | none =>
        refine aw_aload_nN dX2_nextToFill_50 rfl ?_
        exact aw_qret (x := none) dX2_nextToFill_51 rfl (Or.inl ⟨_, rfl⟩) ⟨rfl, rfl⟩
      | some y =>
        refine aw_aload_n dX2_nextToFill_50 rfl ?_
        exact aw_qret (x := some (α 15 y)) dX2_nextToFill_51 rfl (Or.inl ⟨_, rfl⟩) ⟨rfl, rfl⟩
    | cons x rest ih =>
      intro pre s e hs9 hq z3
      have hpl : pre.length < (κ.2.1 i).length := by rw [e]; simp
      have hk2 : ((κ.2.1 i).map (α 15))[pre.length]? = some (α 15 x) := by rw [List.getElem?_map, e]; simp
      have hLG := (hC.2.2.2.2.2.2.2.2.2 i hi).1.lg hk2
      have hx : x < nm := hW x (by rw [e]; simp)
      have ih2 := fun (s9 : Option Nat) (h1 : ∀ y, s9 = some y → y < nm) (h2 : q_nx κ rest s9 = q_nx κ (κ.2.1 i) none) => ih (pre ++ [x]) s9 (by rw [e]; simp) h1 h2
      rw [show (pre ++ [x]).length = pre.length + 1 by simp] at ih2
      cases s with
      | none =>
        refine aw_iload_n dX2_nextToFill_4 rfl ?_
        refine aw_aload_n dX2_nextToFill_5 rfl ?_
        refine aw_get dX2_nextToFill_6 fg_X2_10_3 (gF hC hi) rfl ?_
        refine aw_V0i (kc' := 0) (ks' := 0) dX2_nextToFill_9 cs_X2_33_0 hs (j_size hs) rfl (Nat.le_of_ble_eq_true rfl) (fun x9 M9 h9 => ?_)
        obtain ⟨rfl, e9⟩ := h9
        replace e9 := e9.symm
        subst e9
        refine aw_icmp_ge (tgt := 50) dX2_nextToFill_12 (by decide) (fun h12 => absurd (nI_lt hpl (by omega)) (Int32.not_lt.mpr h12)) (fun h12 => ?_)
        refine aw_aload_n dX2_nextToFill_15 rfl ?_
        refine aw_get dX2_nextToFill_16 fg_X2_10_3 (gF hC hi) rfl ?_
        refine aw_iload_n dX2_nextToFill_19 rfl ?_
        refine aw_V1r (kc' := 0) (ks' := 0) dX2_nextToFill_20 cs_X2_37_0 hs (j_get hLG hk2) rfl (Nat.le_of_ble_eq_true rfl) (fun x20 M20 h20 => ?_)
        obtain ⟨rfl, e20⟩ := h20
        replace e20 := e20.symm
        subst e20
        refine aw_castMan dX2_nextToFill_23 tw_604 (cMan hC hx) ?_
        refine aw_astore_n dX2_nextToFill_26 rfl (by decide) ?_
        refine aw_aload_nN dX2_nextToFill_27 rfl ?_
        refine aw_ifnullN (tgt := 42) dX2_nextToFill_28 (by decide) ?_
        refine aw_aload_n dX2_nextToFill_42 rfl ?_
        refine aw_astore_n dX2_nextToFill_43 rfl (by decide) ?_
        refine aw_iinc dX2_nextToFill_44 rfl (ii_1 pre.length) rfl (by decide) ?_
        refine aw_goto (tgt := 4) dX2_nextToFill_47 (by decide) ?_
        exact ih2 (some x) (fun y h => by cases h; exact hx) hq _
      | some y =>
        have hy : y < nm := hs9 y rfl
        refine aw_iload_n dX2_nextToFill_4 rfl ?_
        refine aw_aload_n dX2_nextToFill_5 rfl ?_
        refine aw_get dX2_nextToFill_6 fg_X2_10_3 (gF hC hi) rfl ?_
        refine aw_V0i (kc' := 0) (ks' := 0) dX2_nextToFill_9 cs_X2_33_0 hs (j_size hs) rfl (Nat.le_of_ble_eq_true rfl) (fun x9 M9 h9 => ?_)
        obtain ⟨rfl, e9⟩ := h9
        replace e9 := e9.symm
        subst e9
        refine aw_icmp_ge (tgt := 50) dX2_nextToFill_12 (by decide) (fun h12 => absurd (nI_lt hpl (by omega)) (Int32.not_lt.mpr h12)) (fun h12 => ?_)
        refine aw_aload_n dX2_nextToFill_15 rfl ?_
        refine aw_get dX2_nextToFill_16 fg_X2_10_3 (gF hC hi) rfl ?_
        refine aw_iload_n dX2_nextToFill_19 rfl ?_
        refine aw_V1r (kc' := 0) (ks' := 0) dX2_nextToFill_20 cs_X2_37_0 hs (j_get hLG hk2) rfl (Nat.le_of_ble_eq_true rfl) (fun x20 M20 h20 => ?_)
        obtain ⟨rfl, e20⟩ := h20
        replace e20 := e20.symm
        subst e20
        refine aw_castMan dX2_nextToFill_23 tw_604 (cMan hC hx) ?_
        refine aw_astore_n dX2_nextToFill_26 rfl (by decide) ?_
        refine aw_aload_n dX2_nextToFill_27 rfl ?_
        refine aw_ifnull dX2_nextToFill_28 ?_
        refine aw_aload_n dX2_nextToFill_31 rfl ?_
        refine aw_get dX2_nextToFill_32 (fM_X2_43 _) (gM hC hx) rfl ?_
        refine aw_aload_n dX2_nextToFill_35 rfl ?_
        refine aw_get dX2_nextToFill_36 (fM_X2_43 _) (gM hC hy) rfl ?_
        refine aw_icmp_le (tgt := 44) dX2_nextToFill_39 (by decide) (fun h39 => ?_) (fun h39 => ?_)
        · refine aw_iinc dX2_nextToFill_44 rfl (ii_1 pre.length) rfl (by decide) ?_
          refine aw_goto (tgt := 4) dX2_nextToFill_47 (by decide) ?_
          first | exact ih2 (some y) (fun y h => by cases h; exact hy) (by rw [q_nx, if_pos (show κ.1.2.1 17 x ≤ κ.1.2.1 17 y from h39)] at hq; exact hq) _ | exact ih2 (some x) (fun y h => by cases h; exact hx) (by rw [q_nx, if_neg (show ¬ κ.1.2.1 17 x ≤ κ.1.2.1 17 y from h39)] at hq; exact hq) _
        · refine aw_aload_n dX2_nextToFill_42 rfl ?_
          refine aw_astore_n dX2_nextToFill_43 rfl (by decide) ?_
          refine aw_iinc dX2_nextToFill_44 rfl (ii_1 pre.length) rfl (by decide) ?_
          refine aw_goto (tgt := 4) dX2_nextToFill_47 (by decide) ?_
          first | exact ih2 (some y) (fun y h => by cases h; exact hy) (by rw [q_nx, if_pos (show κ.1.2.1 17 x ≤ κ.1.2.1 17 y from h39)] at hq; exact hq) _ | exact ih2 (some x) (fun y h => by cases h; exact hx) (by rw [q_nx, if_neg (show ¬ κ.1.2.1 17 x ≤ κ.1.2.1 17 y from h39)] at hq; exact hq) _
  refine aw_null dX2_nextToFill_0 ?_
  refine aw_astore_nN dX2_nextToFill_1 rfl (by decide) ?_
  refine aw_iconst (v := 0) dX2_nextToFill_2 (by decide) ?_
  refine aw_istore_n dX2_nextToFill_3 rfl (by decide) ?_
  exact key (κ.2.1 i) [] none rfl (fun y h => by cases h) rfl none
def q_ct (κ : cS) (m : Nat) : List Nat → Int32 → Bool → Int32
  | [], a, _ => a
  | x :: xs, a, b => if x = m then q_ct κ m xs a false else if κ.1.2.1 17 m < κ.1.2.1 17 x ∨ (b = true ∧ κ.1.2.1 17 x = κ.1.2.1 17 m) then q_ct κ m xs (a + 1) b else q_ct κ m xs a b
set_option maxRecDepth 100000 in
set_option maxHeartbeats 4000000 in
theorem c_countAhead {l : Launch} {g : ab_G} {M : ab_M} {α : Nat → Nat → Nat} {nf nj nm : Nat} {κ : cS} (hC : CC g M α nf nj nm κ) (hI : cI0 nf nj nm κ) {i m : Nat} (hi : i < nf) (hm : m < nm) (hW : ∀ x ∈ κ.2.1 i, x < nm) : AM l g Y_X2_countAhead 3 64 0 0 [.ref (α 10 i), .ref (α 15 m)] M (ab_Qi (fun x M' => x = q_ct κ m (κ.2.1 i) 0 true ∧ M' = M)) := by
  refine AM.of [some (.ref (α 10 i)), some (.ref (α 15 m)), none, none, none, none] (by decide +kernel) (Nat.le_of_ble_eq_true rfl) rfl ?_
  have hb := hI.1
  obtain ⟨u0, u1, hs⟩ := (hC.2.2.2.2.2.2.2.2.2 i hi).1.sz
  rw [List.length_map] at hs
  have hl10 := (hC.2.2.2.2.2.2.2.2.2 i hi).1.le
  rw [List.length_map] at hl10
  have key : ∀ (rest pre : List Nat) (a : Int32) (b : Bool), κ.2.1 i = pre ++ rest → q_ct κ m rest a b = q_ct κ m (κ.2.1 i) 0 true → ∀ z5 : Option Value, AW l g ab_X0 (ab_Z g (ab_Qi (fun x M' => x = q_ct κ m (κ.2.1 i) 0 true ∧ M' = M))) Y_X2_countAhead 3 64 0 0 7 [some (.ref (α 10 i)), some (.ref (α 15 m)), some (.int a), some (.int (b2i b)), some (.int (nI pre.length)), z5] [] M := by
    intro rest
    induction rest with
    | nil =>
      intro pre a b e hq z5
      have hpl : (κ.2.1 i).length = pre.length := by rw [e]; simp
      rw [hpl] at hs
      rw [← hq]
      refine aw_iload dX2_countAhead_7 rfl ?_
      refine aw_aload_n dX2_countAhead_9 rfl ?_
      refine aw_get dX2_countAhead_10 fg_X2_10_3 (gF hC hi) rfl ?_
      refine aw_V0i (kc' := 0) (ks' := 0) dX2_countAhead_13 cs_X2_33_0 hs (j_size hs) rfl (Nat.le_of_ble_eq_true rfl) (fun x13 M13 h13 => ?_)
      obtain ⟨rfl, e13⟩ := h13
      replace e13 := e13.symm
      subst e13
      refine aw_icmp_ge (tgt := 81) dX2_countAhead_16 (by decide) (fun h16 => ?_) (fun h16 => absurd (Int32.le_refl _) h16)
      refine aw_iload_n dX2_countAhead_81 rfl ?_
      exact aw_iret dX2_countAhead_82 rfl ⟨rfl, rfl⟩
    | cons x rest ih =>
      intro pre a b e hq z5
      have hpl : pre.length < (κ.2.1 i).length := by rw [e]; simp
      have hk2 : ((κ.2.1 i).map (α 15))[pre.length]? = some (α 15 x) := by rw [List.getElem?_map, e]; simp
      have hLG := (hC.2.2.2.2.2.2.2.2.2 i hi).1.lg hk2
      have hx : x < nm := hW x (by rw [e]; simp)
      have ih2 := fun (a9 : Int32) (b9 : Bool) (h2 : q_ct κ m rest a9 b9 = q_ct κ m (κ.2.1 i) 0 true) => ih (pre ++ [x]) a9 b9 (by rw [e]; simp) h2
      rw [show (pre ++ [x]).length = pre.length + 1 by simp] at ih2
      rw [q_ct] at hq
      refine aw_iload dX2_countAhead_7 rfl ?_
      refine aw_aload_n dX2_countAhead_9 rfl ?_
      refine aw_get dX2_countAhead_10 fg_X2_10_3 (gF hC hi) rfl ?_
      refine aw_V0i (kc' := 0) (ks' := 0) dX2_countAhead_13 cs_X2_33_0 hs (j_size hs) rfl (Nat.le_of_ble_eq_true rfl) (fun x13 M13 h13 => ?_)
      obtain ⟨rfl, e13⟩ := h13
      replace e13 := e13.symm
      subst e13
      refine aw_icmp_ge (tgt := 81) dX2_countAhead_16 (by decide) (fun h16 => absurd (nI_lt hpl (by omega)) (Int32.not_lt.mpr h16)) (fun h16 => ?_)
      refine aw_aload_n dX2_countAhead_19 rfl ?_
      refine aw_get dX2_countAhead_20 fg_X2_10_3 (gF hC hi) rfl ?_
      refine aw_iload dX2_countAhead_23 rfl ?_
      refine aw_V1r (kc' := 0) (ks' := 0) dX2_countAhead_25 cs_X2_37_0 hs (j_get hLG hk2) rfl (Nat.le_of_ble_eq_true rfl) (fun x25 M25 h25 => ?_)
      obtain ⟨rfl, e25⟩ := h25
      replace e25 := e25.symm
      subst e25
      refine aw_castMan dX2_countAhead_28 tw_604 (cMan hC hx) ?_
      refine aw_astore dX2_countAhead_31 rfl (by decide) ?_
      refine aw_aload dX2_countAhead_33 rfl ?_
      refine aw_aload_n dX2_countAhead_35 rfl ?_
      refine aw_acmp_ne (tgt := 44) dX2_countAhead_36 (by decide) (fun h36 => ?_) (fun h36 => ?_)
      · have hne : ¬ x = m := fun q => h36 (congrArg (α 15) q)
        rw [if_neg hne] at hq
        refine aw_aload dX2_countAhead_44 rfl ?_
        refine aw_get dX2_countAhead_46 (fM_X2_43 _) (gM hC hx) rfl ?_
        refine aw_aload_n dX2_countAhead_49 rfl ?_
        refine aw_get dX2_countAhead_50 (fM_X2_43 _) (gM hC hm) rfl ?_
        refine aw_icmp_gt (tgt := 72) dX2_countAhead_53 (by decide) (fun h53 => ?_) (fun h53 => ?_)
        · refine aw_iinc dX2_countAhead_72 rfl rfl rfl (by decide) ?_
          refine aw_iinc dX2_countAhead_75 rfl (ii_1 pre.length) rfl (by decide) ?_
          refine aw_goto (tgt := 7) dX2_countAhead_78 (by decide) ?_
          first | exact ih2 (a + 1) b (by rw [if_pos (Or.inl h53)] at hq; exact hq) _ | exact ih2 (a + 1) b (by rw [if_pos (Or.inr ⟨b2i_n.mp h57, h69⟩)] at hq; exact hq) _ | exact ih2 a b (by rw [if_neg (fun q => by rcases q with q | q; exact absurd q h53; rw [b2i_0.mp h57] at q; exact absurd q.1 (by decide))] at hq; exact hq) _ | exact ih2 a b (by rw [if_neg (fun q => by rcases q with q | q; exact absurd q h53; exact absurd q.2 h69)] at hq; exact hq) _ | exact ih2 a false hq _
        · refine aw_iload_n dX2_countAhead_56 rfl ?_
          refine aw_if_eq (tgt := 75) dX2_countAhead_57 (by decide) (fun h57 => ?_) (fun h57 => ?_)
          · refine aw_iinc dX2_countAhead_75 rfl (ii_1 pre.length) rfl (by decide) ?_
            refine aw_goto (tgt := 7) dX2_countAhead_78 (by decide) ?_
            first | exact ih2 (a + 1) b (by rw [if_pos (Or.inl h53)] at hq; exact hq) _ | exact ih2 (a + 1) b (by rw [if_pos (Or.inr ⟨b2i_n.mp h57, h69⟩)] at hq; exact hq) _ | exact ih2 a b (by rw [if_neg (fun q => by rcases q with q | q; exact absurd q h53; rw [b2i_0.mp h57] at q; exact absurd q.1 (by decide))] at hq; exact hq) _ | exact ih2 a b (by rw [if_neg (fun q => by rcases q with q | q; exact absurd q h53; exact absurd q.2 h69)] at hq; exact hq) _ | exact ih2 a false hq _
          · refine aw_aload dX2_countAhead_60 rfl ?_
            refine aw_get dX2_countAhead_62 (fM_X2_43 _) (gM hC hx) rfl ?_
            refine aw_aload_n dX2_countAhead_65 rfl ?_
            refine aw_get dX2_countAhead_66 (fM_X2_43 _) (gM hC hm) rfl ?_
            refine aw_icmp_ne (tgt := 75) dX2_countAhead_69 (by decide) (fun h69 => ?_) (fun h69 => ?_)
            · refine aw_iinc dX2_countAhead_75 rfl (ii_1 pre.length) rfl (by decide) ?_
              refine aw_goto (tgt := 7) dX2_countAhead_78 (by decide) ?_
              first | exact ih2 (a + 1) b (by rw [if_pos (Or.inl h53)] at hq; exact hq) _ | exact ih2 (a + 1) b (by rw [if_pos (Or.inr ⟨b2i_n.mp h57, h69⟩)] at hq; exact hq) _ | exact ih2 a b (by rw [if_neg (fun q => by rcases q with q | q; exact absurd q h53; rw [b2i_0.mp h57] at q; exact absurd q.1 (by decide))] at hq; exact hq) _ | exact ih2 a b (by rw [if_neg (fun q => by rcases q with q | q; exact absurd q h53; exact absurd q.2 h69)] at hq; exact hq) _ | exact ih2 a false hq _
            · refine aw_iinc dX2_countAhead_72 rfl rfl rfl (by decide) ?_
              refine aw_iinc dX2_countAhead_75 rfl (ii_1 pre.length) rfl (by decide) ?_
              refine aw_goto (tgt := 7) dX2_countAhead_78 (by decide) ?_
              first | exact ih2 (a + 1) b (by rw [if_pos (Or.inl h53)] at hq; exact hq) _ | exact ih2 (a + 1) b (by rw [if_pos (Or.inr ⟨b2i_n.mp h57, h69⟩)] at hq; exact hq) _ | exact ih2 a b (by rw [if_neg (fun q => by rcases q with q | q; exact absurd q h53; rw [b2i_0.mp h57] at q; exact absurd q.1 (by decide))] at hq; exact hq) _ | exact ih2 a b (by rw [if_neg (fun q => by rcases q with q | q; exact absurd q h53; exact absurd q.2 h69)] at hq; exact hq) _ | exact ih2 a false hq _
      · have hxe := m_inj hC hm hx h36
        rw [if_pos hxe] at hq
        refine aw_iconst (v := 0) dX2_countAhead_39 (by decide) ?_
        refine aw_istore_n dX2_countAhead_40 rfl (by decide) ?_
        refine aw_goto (tgt := 75) dX2_countAhead_41 (by decide) ?_
        refine aw_iinc dX2_countAhead_75 rfl (ii_1 pre.length) rfl (by decide) ?_
        refine aw_goto (tgt := 7) dX2_countAhead_78 (by decide) ?_
        first | exact ih2 (a + 1) b (by rw [if_pos (Or.inl h53)] at hq; exact hq) _ | exact ih2 (a + 1) b (by rw [if_pos (Or.inr ⟨b2i_n.mp h57, h69⟩)] at hq; exact hq) _ | exact ih2 a b (by rw [if_neg (fun q => by rcases q with q | q; exact absurd q h53; rw [b2i_0.mp h57] at q; exact absurd q.1 (by decide))] at hq; exact hq) _ | exact ih2 a b (by rw [if_neg (fun q => by rcases q with q | q; exact absurd q h53; exact absurd q.2 h69)] at hq; exact hq) _ | exact ih2 a false hq _
  refine aw_iconst (v := 0) dX2_countAhead_0 (by decide) ?_
  refine aw_istore_n dX2_countAhead_1 rfl (by decide) ?_
  refine aw_iconst (v := 1) dX2_countAhead_2 (by decide) ?_
  refine aw_istore_n dX2_countAhead_3 rfl (by decide) ?_
  refine aw_iconst (v := 0) dX2_countAhead_4 (by decide) ?_
  refine aw_istore dX2_countAhead_5 rfl (by decide) ?_
  exact key (κ.2.1 i) [] 0 true rfl rfl none
