/-! ===== the class over its state: men ===== -/
theorem cMan {g : ab_G} {M : ab_M} {α : Nat → Nat → Nat} {nf nj nm m : Nat} {κ : cS} (hC : CC g M α nf nj nm κ) (hm : m < nm) : aMan M (α 15 m) := by
  refine ⟨_, _, _, gM hC hm, ?_⟩
  unfold kci
  split
  · exact Or.inl rfl
  · split
    · exact Or.inr (Or.inl rfl)
    · exact Or.inr (Or.inr rfl)
theorem m_inj {g : ab_G} {M : ab_M} {α : Nat → Nat → Nat} {nf nj nm m x : Nat} {κ : cS} (hC : CC g M α nf nj nm κ) (hm : m < nm) (hx : x < nm) (h : α 15 x = α 15 m) : x = m := by
  have h1 := gM hC hm
  rw [← h, gM hC hx] at h1
  exact congrArg (fun q : Option ((Nat × Nat) × va_E) => (q.map (fun z => z.1.2)).getD 0) h1
theorem gMk {g : ab_G} {M : ab_M} {α : Nat → Nat → Nat} {nf nj nm m k fi : Nat} {κ : cS} (hC : CC g M α nf nj nm κ) (hm : m < nm) (ek : κ.1.2.1 13 m = nI k) (hk : k < 3) (ef : κ.1.2.1 15 m = nI fi) (hfi : fi < 1000) : M (α 15 m) = some ((15, m), mC k (nI m) (κ.1.2.1 14 m) (α 10 fi) (α 13 (κ.1.2.1 16 m).toNatClampNeg) (κ.1.2.1 17 m) (κ.1.2.1 19 m) (κ.1.2.1 20 m) (κ.1.2.1 21 m) (κ.1.2.1 22 m) (κ.1.2.1 41 m) (κ.1.2.1 24 m) (κ.1.2.1 25 m) (κ.1.2.1 18 m)) := by
  have h := gM hC hm
  unfold mM at h
  rw [ek, ef, nI_cl (show k < 2 ^ 31 by omega), nI_cl (show fi < 2 ^ 31 by omega)] at h
  exact h
def q_mi (κ : cS) (m j : Nat) : Int32 := q_or (κ.2.2 j) 4 (κ.1.2.1 15 m) 0
def q_dnC (κ : cS) (m j : Nat) : Int32 := q_wd (κ.1.2.1 13 m).toNatClampNeg (q_mi κ m j) (κ.1.2.1 18 m)
def q_upC (κ : cS) (m j : Nat) : Int32 := q_dnC κ m j + q_cl (κ.1.2.1 13 m).toNatClampNeg (κ.1.2.1 6 j)
def q_canC (κ : cS) (m j : Nat) : Bool := q_can (κ.1.2.1 13 m).toNatClampNeg (κ.1.2.1 6 j)
def q_toilC (κ : cS) (m j : Nat) : Int32 := if q_canC κ m j = true then q_upC κ m j + q_dnC κ m j else -1
def g_up (κ : cS) (m : Nat) (t : Int32) : cS := cp (cp (cp κ 19 m 1) 20 m (q_upC κ m (κ.1.2.1 16 m).toNatClampNeg)) 41 m t
def g_down (κ : cS) (m : Nat) : cS := cp (cp κ 19 m 2) 20 m (q_dnC κ m (κ.1.2.1 16 m).toNatClampNeg)
def g_join (κ : cS) (m : Nat) : cS := cw (cp κ 19 m 0) (κ.1.2.1 15 m).toNatClampNeg (κ.2.1 (κ.1.2.1 15 m).toNatClampNeg ++ [m])
def g_leave (κ : cS) (m : Nat) : cS := cw κ (κ.1.2.1 15 m).toNatClampNeg ((κ.2.1 (κ.1.2.1 15 m).toNatClampNeg).erase m)
theorem cI_19 {nf nm : Nat} {κ : cS} (h : ∀ i, i < nf → (κ.2.1 i).Nodup ∧ ∀ m ∈ κ.2.1 i, m < nm ∧ κ.1.2.1 19 m = 0 ∧ κ.1.2.1 15 m = nI i) (m : Nat) (v : Int32) (hv : v = 0 ∨ ∀ i, i < nf → m ∉ κ.2.1 i) : ∀ i, i < nf → ((cp κ 19 m v).2.1 i).Nodup ∧ ∀ x ∈ (cp κ 19 m v).2.1 i, x < nm ∧ (cp κ 19 m v).1.2.1 19 x = 0 ∧ (cp κ 19 m v).1.2.1 15 x = nI i := by
  intro i hi
  refine ⟨(h i hi).1, fun x hx => ?_⟩
  obtain ⟨h1, h2, h3⟩ := (h i hi).2 x hx
  refine ⟨h1, ?_, h3⟩
  show upd (κ.1.2.1 19) m v x = 0
  unfold upd
  split
  · next e =>
    rcases hv with hv | hv
    · exact hv
    · subst e
      exact absurd hx (hv i hi)
  · exact h2
/-- what the ways need -/
def cI0 (nf nj nm : Nat) (κ : cS) : Prop := (nf ≤ 4 ∧ nj ≤ 8 ∧ nm ≤ 10) ∧ (κ.1.1 0 = nI nf ∧ κ.1.1 5 = nI nj ∧ κ.1.1 12 = nI nm) ∧ (∀ m, m < nm → ∃ i, i < nf ∧ κ.1.2.1 15 m = nI i) ∧ (∀ m, m < nm → ∃ j, j < nj ∧ κ.1.2.1 16 m = nI j) ∧ (∀ m, m < nm → ∃ k, k < 3 ∧ κ.1.2.1 13 m = nI k)
theorem cI.z {nf nj nm : Nat} {κ : cS} (h : cI nf nj nm κ) : cI0 nf nj nm κ := ⟨h.1, h.2.1, h.2.2.1, h.2.2.2.1, h.2.2.2.2.1⟩
set_option maxRecDepth 100000 in
set_option maxHeartbeats 4000000 in
theorem w_wayDown {l : Launch} {g : ab_G} {M : ab_M} {α : Nat → Nat → Nat} {nf nj nm : Nat} {κ : cS} (hC : CC g M α nf nj nm κ) (hI : cI0 nf nj nm κ) {m j : Nat} (hm : m < nm) (hj : j < nj) : AM l g Y_X5_wayDown 2 42 0 0 [.ref (α 15 m), .ref (α 13 j)] M (ab_Qi (fun x M' => x = q_dnC κ m j ∧ M' = M)) := by
  obtain ⟨fi, hfi, ef⟩ := hI.2.2.1 m hm
  obtain ⟨k, hk, ek⟩ := hI.2.2.2.2 m hm
  have hb := hI.1
  have hF := gF hC hfi
  have h := gMk hC hm ek hk ef (by omega)
  unfold q_dnC q_mi
  rw [ek, ef, nI_cl (show k < 2 ^ 31 by omega)]
  match k, hk with
  | 0, _ => exact c_wayDown0 (pa := κ.1.2.1 18 m) h (gJ hC hj) (gJm hC hj) hF
  | 1, _ => exact c_wayDown1 (pa := κ.1.2.1 18 m) h (gJ hC hj) (gJm hC hj) hF
  | 2, _ => exact c_wayDown2 (pa := κ.1.2.1 18 m) h (gJ hC hj) (gJm hC hj) hF
set_option maxRecDepth 100000 in
set_option maxHeartbeats 4000000 in
theorem w_wayUp {l : Launch} {g : ab_G} {M : ab_M} {α : Nat → Nat → Nat} {nf nj nm : Nat} {κ : cS} (hC : CC g M α nf nj nm κ) (hI : cI0 nf nj nm κ) {m j : Nat} (hm : m < nm) (hj : j < nj) : AM l g Y_X5_wayUp 3 63 0 0 [.ref (α 15 m), .ref (α 13 j)] M (ab_Qi (fun x M' => x = q_upC κ m j ∧ M' = M)) := by
  obtain ⟨fi, hfi, ef⟩ := hI.2.2.1 m hm
  obtain ⟨k, hk, ek⟩ := hI.2.2.2.2 m hm
  have hb := hI.1
  have hF := gF hC hfi
  have h := gMk hC hm ek hk ef (by omega)
  unfold q_upC q_dnC q_mi
  rw [ek, ef, nI_cl (show k < 2 ^ 31 by omega)]
  match k, hk with
  | 0, _ => exact c_wayUp0 (pa := κ.1.2.1 18 m) h (gJ hC hj) (gJm hC hj) hF
  | 1, _ => exact c_wayUp1 (pa := κ.1.2.1 18 m) h (gJ hC hj) (gJm hC hj) hF
  | 2, _ => exact c_wayUp2 (pa := κ.1.2.1 18 m) h (gJ hC hj) (gJm hC hj) hF
set_option maxRecDepth 100000 in
set_option maxHeartbeats 4000000 in
theorem w_toilFor {l : Launch} {g : ab_G} {M : ab_M} {α : Nat → Nat → Nat} {nf nj nm : Nat} {κ : cS} (hC : CC g M α nf nj nm κ) (hI : cI0 nf nj nm κ) {m j : Nat} (hm : m < nm) (hj : j < nj) : AM l g Y_X5_toilFor 4 84 0 0 [.ref (α 15 m), .ref (α 13 j)] M (ab_Qi (fun x M' => x = q_toilC κ m j ∧ M' = M)) := by
  obtain ⟨fi, hfi, ef⟩ := hI.2.2.1 m hm
  obtain ⟨k, hk, ek⟩ := hI.2.2.2.2 m hm
  have hb := hI.1
  have hF := gF hC hfi
  have h := gMk hC hm ek hk ef (by omega)
  unfold q_toilC q_canC q_upC q_dnC q_mi
  rw [ek, ef, nI_cl (show k < 2 ^ 31 by omega)]
  match k, hk with
  | 0, _ => exact c_toilFor0 (pa := κ.1.2.1 18 m) h (gJ hC hj) (gJm hC hj) hF
  | 1, _ => exact c_toilFor1 (pa := κ.1.2.1 18 m) h (gJ hC hj) (gJm hC hj) hF
  | 2, _ => exact c_toilFor2 (pa := κ.1.2.1 18 m) h (gJ hC hj) (gJm hC hj) hF
set_option maxRecDepth 100000 in
set_option maxHeartbeats 4000000 in
theorem c_goUp {l : Launch} {g : ab_G} {M : ab_M} {α : Nat → Nat → Nat} {nf nj nm : Nat} {κ : cS} (hC : CC g M α nf nj nm κ) (hI : cI0 nf nj nm κ) {m : Nat} (hm : m < nm) {t : Int32} : AM l g Y_X5_goUp 4 84 0 0 [.ref (α 15 m), .int t] M (ab_Qv (fun M' => CC g M' α nf nj nm (g_up κ m t) ∧ KH M M')) := by
  refine AM.of [some (.ref (α 15 m)), some (.int t)] (by decide +kernel) (Nat.le_of_ble_eq_true rfl) rfl ?_
  obtain ⟨fi, hfi, efi⟩ := hI.2.2.1 m hm
  obtain ⟨ji, hji, eji⟩ := hI.2.2.2.1 m hm
  have hb := hI.1
  have hK : KH M M := KT.rf
  refine aw_aload_n dX5_goUp_0 rfl ?_
  refine aw_iconst (v := 1) dX5_goUp_1 (by decide) ?_
  refine cw_pM5 dX5_goUp_2 (pM_X5_15 _) hC hm hK (fun M hC hK => ?_)
  refine aw_aload_n dX5_goUp_5 rfl ?_
  refine aw_aload_n dX5_goUp_6 rfl ?_
  refine aw_aload_n dX5_goUp_7 rfl ?_
  refine cw_gM3 dX5_goUp_8 (fM_X5_46 _) hC hm eji (by omega) ?_
  refine aw_V1i (kc' := 0) (ks' := 0) dX5_goUp_11 (csM_X5_74 _) (gM hC hm) (w_wayUp hC (show cI0 nf nj nm (cp κ 19 m 1) from hI) hm hji) rfl (Nat.le_of_ble_eq_true rfl) (fun x11 M11 h11 => ?_)
  obtain ⟨rfl, e11⟩ := h11
  replace e11 := e11.symm
  subst e11
  refine cw_pM6 dX5_goUp_14 (pM_X5_18 _) hC hm hK (fun M hC hK => ?_)
  refine aw_aload_n dX5_goUp_17 rfl ?_
  refine aw_iload_n dX5_goUp_18 rfl ?_
  refine cw_pM9 dX5_goUp_19 (pM_X5_27 _) hC hm hK (fun M hC hK => ?_)
  exact aw_vret dX5_goUp_22 rfl ⟨by rw [g_up, eji, nI_cl (show ji < 2 ^ 31 by omega)]; exact hC, hK⟩
set_option maxRecDepth 100000 in
set_option maxHeartbeats 4000000 in
theorem c_goDown {l : Launch} {g : ab_G} {M : ab_M} {α : Nat → Nat → Nat} {nf nj nm : Nat} {κ : cS} (hC : CC g M α nf nj nm κ) (hI : cI0 nf nj nm κ) {m : Nat} (hm : m < nm) : AM l g Y_X5_goDown 3 63 0 0 [.ref (α 15 m)] M (ab_Qv (fun M' => CC g M' α nf nj nm (g_down κ m) ∧ KH M M')) := by
  refine AM.of [some (.ref (α 15 m))] (by decide +kernel) (Nat.le_of_ble_eq_true rfl) rfl ?_
  obtain ⟨fi, hfi, efi⟩ := hI.2.2.1 m hm
  obtain ⟨ji, hji, eji⟩ := hI.2.2.2.1 m hm
  have hb := hI.1
  have hK : KH M M := KT.rf
  refine aw_aload_n dX5_goDown_0 rfl ?_
  refine aw_iconst (v := 2) dX5_goDown_1 (by decide) ?_
  refine cw_pM5 dX5_goDown_2 (pM_X5_15 _) hC hm hK (fun M hC hK => ?_)
  refine aw_aload_n dX5_goDown_5 rfl ?_
  refine aw_aload_n dX5_goDown_6 rfl ?_
  refine aw_aload_n dX5_goDown_7 rfl ?_
  refine cw_gM3 dX5_goDown_8 (fM_X5_46 _) hC hm eji (by omega) ?_
  refine aw_V1i (kc' := 0) (ks' := 0) dX5_goDown_11 (csM_X5_55 _) (gM hC hm) (w_wayDown hC (show cI0 nf nj nm (cp κ 19 m 2) from hI) hm hji) rfl (Nat.le_of_ble_eq_true rfl) (fun x11 M11 h11 => ?_)
  obtain ⟨rfl, e11⟩ := h11
  replace e11 := e11.symm
  subst e11
  refine cw_pM6 dX5_goDown_14 (pM_X5_18 _) hC hm hK (fun M hC hK => ?_)
  exact aw_vret dX5_goDown_17 rfl ⟨by rw [g_down, eji, nI_cl (show ji < 2 ^ 31 by omega)]; exact hC, hK⟩
theorem rowT {i : Nat} {t : Nat × Nat} (h : t = (11, i) ∨ t = (12, i)) : t.1 < 20 := by
  rcases h with h | h <;> (rw [h]; show _ < 20; simp)
theorem cOm {g : ab_G} {M : ab_M} {α : Nat → Nat → Nat} {nf nj nm m : Nat} {κ : cS} (hC : CC g M α nf nj nm κ) (hm : m < nm) : aO M (α 15 m) (15, m) := by
  have h := gM hC hm
  unfold mM mC kci at h
  split at h
  · exact ⟨_, _, _, h, rfl, nc_1104⟩
  · split at h
    · exact ⟨_, _, _, h, rfl, nc_1103⟩
    · exact ⟨_, _, _, h, rfl, nc_1102⟩
set_option maxRecDepth 100000 in
set_option maxHeartbeats 4000000 in
theorem c_joinRow {l : Launch} {g : ab_G} {M : ab_M} {α : Nat → Nat → Nat} {nf nj nm : Nat} {κ : cS} (hC : CC g M α nf nj nm κ) (hI : cI0 nf nj nm κ) {m : Nat} (hm : m < nm) (hlg : κ.2.2 100 (κ.1.2.1 15 m).toNatClampNeg = 1) (hln : (κ.2.1 (κ.1.2.1 15 m).toNatClampNeg).length < 10) : AM l g Y_X5_joinRow 5 108 0 0 [.ref (α 15 m)] M (ab_Qv (fun M' => CC g M' α nf nj nm (g_join κ m) ∧ KH M M')) := by
  refine AM.of [some (.ref (α 15 m))] (by decide +kernel) (Nat.le_of_ble_eq_true rfl) rfl ?_
  obtain ⟨fi, hfi, efi⟩ := hI.2.2.1 m hm
  obtain ⟨ji, hji, eji⟩ := hI.2.2.2.1 m hm
  have hb := hI.1
  have hK : KH M M := KT.rf
  rw [efi, nI_cl (show fi < 2 ^ 31 by omega)] at hlg hln
  refine aw_aload_n dX5_joinRow_0 rfl ?_
  refine aw_iconst (v := 0) dX5_joinRow_1 (by decide) ?_
  refine cw_pM5 dX5_joinRow_2 (pM_X5_15 _) hC hm hK (fun M hC hK => ?_)
  refine aw_aload_n dX5_joinRow_5 rfl ?_
  refine cw_gM2 dX5_joinRow_6 (fM_X5_42 _) hC hm efi (by omega) ?_
  refine aw_get dX5_joinRow_9 fg_X5_79_3 (gF hC hfi) rfl ?_
  refine aw_aload_n dX5_joinRow_12 rfl ?_
  have hlG := (hC.2.2.2.2.2.2.2.2.2 fi hfi).2 hlg
  obtain ⟨u0, u1, hs⟩ := (hC.2.2.2.2.2.2.2.2.2 fi hfi).1.sz
  refine aw_V1i (kc' := 0) (ks' := 0) dX5_joinRow_13 cs_X5_85_0 hs (j_add (by simp) hlG (by rw [List.length_map]; exact hln) (cOm hC hm) (by simp)) rfl (Nat.le_of_ble_eq_true rfl) (fun x13 M13 h13 => ?_)
  obtain ⟨rfl, h1, h2⟩ := h13
  replace hC := cset_row hC hfi h2 (ls := κ.2.1 fi ++ [m]) (by rw [List.map_append]; exact h1)
  replace hK := hK.tr (h2.wid (fun t h => rowT h))
  refine aw_pop dX5_joinRow_16 rfl ?_
  exact aw_vret dX5_joinRow_17 rfl ⟨by rw [g_join, efi, nI_cl (show fi < 2 ^ 31 by omega)]; exact hC, hK⟩
