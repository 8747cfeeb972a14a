/-! ===== the class's minutes: its steps ===== -/
theorem i6 {q c : Nat} (hq : q < 100) (hc : c < 6) : nI q * 6 + nI c = nI (6 * q + c) := by
  apply Int32.toInt_inj.mp
  have h6 : (6 : Int32).toInt = 6 := by decide
  have h1 : (nI q * 6).toInt = 6 * q := by
    rw [fb_mulI (by rw [nI_toInt (by omega), h6]; omega) (by rw [nI_toInt (by omega), h6]; omega), nI_toInt (by omega), h6]
    omega
  rw [fb_addI (by rw [h1, nI_toInt (by omega)]; omega) (by rw [h1, nI_toInt (by omega)]; omega), h1, nI_toInt (by omega), nI_toInt (by omega)]
  omega
theorem in6 {x : Int32} {q : Nat} (hx : x = nI q) (hq : q < 100) : vp_in (x * 6 + 0) 600 ∧ vp_in (x * 6 + 1) 600 ∧ vp_in (x * 6 + 2) 600 ∧ vp_in (x * 6 + 3) 600 ∧ vp_in (x * 6 + 4) 600 ∧ vp_in (x * 6 + 5) 600 := by
  subst hx
  have h : ∀ c, c < 6 → vp_in (nI q * 6 + nI c) 600 := fun c hc => by rw [i6 hq hc]; exact vp_in_nI (by omega) (by omega)
  exact ⟨h 0 (by decide), h 1 (by decide), h 2 (by decide), h 3 (by decide), h 4 (by decide), h 5 (by decide)⟩
def g_keep (κ : cS) (m : Nat) (v t : Int32) : cS :=
  cs (cs (cp (cp (cp (cp (cp (cp κ 36 (κ.1.1 42 * 6 + 0).toNatClampNeg (nI m)) 36 (κ.1.1 42 * 6 + 1).toNatClampNeg (κ.1.2.1 16 m)) 36 (κ.1.1 42 * 6 + 2).toNatClampNeg v) 36 (κ.1.1 42 * 6 + 3).toNatClampNeg t) 36 (κ.1.1 42 * 6 + 4).toNatClampNeg (κ.1.2.1 24 m)) 36 (κ.1.1 42 * 6 + 5).toNatClampNeg (κ.1.2.1 25 m)) 42 (κ.1.1 42 + 1 - (κ.1.1 42 + 1) / 100 * 100)) 35 (q_min 100 (κ.1.1 35 + 1))
def q_ovC (κ : cS) (i : Nat) : Int32 := q_max 0 (κ.1.2.1 2 i + κ.1.2.1 1 i * κ.1.1 27 / 100 - 300)
def g_flow (κ : cS) (i : Nat) : cS := if κ.1.2.1 3 i = 0 then κ else cl (cl (cp (cp κ 2 i (κ.1.2.1 2 i + (κ.1.2.1 1 i * κ.1.1 27 / 100 - q_ovC κ i))) 4 i (κ.1.2.1 4 i + q_ovC κ i)) 0 (κ.1.2.2 0 + (κ.1.2.1 1 i * κ.1.1 27 / 100).toInt64)) 1 (κ.1.2.2 1 + (q_ovC κ i).toInt64)
def q_fvC (κ : cS) (i m : Nat) : Int32 := q_min 10 (q_min (κ.1.2.1 2 i) (κ.1.2.1 14 m - κ.1.2.1 21 m))
def g_fill1 (κ : cS) (i m : Nat) (v : Int32) : cS := cl (cp (cp κ 2 i (κ.1.2.1 2 i - v)) 21 m (κ.1.2.1 21 m + v)) 2 (κ.1.2.2 2 + v.toInt64)
def g_fill2 (κ : cS) (i m : Nat) (v : Int32) : cS := if v ≤ 0 then κ else cp (cp κ 24 m (nI i)) 25 m (κ.1.1 28)
def g_fill3 (κ : cS) (m : Nat) : cS := if κ.1.2.1 21 m < κ.1.2.1 14 m then κ else g_up (g_leave κ m) m (κ.1.1 28)
def g_fill (κ : cS) (i : Nat) : cS := if κ.1.2.1 3 i = 0 then κ else match q_nx κ (κ.2.1 i) none with
  | none => κ
  | some m => g_fill3 (g_fill2 (g_fill1 κ i m (q_fvC κ i m)) i m (q_fvC κ i m)) m
def q_pvC (κ : cS) (m : Nat) : Int32 := q_min (κ.1.2.1 21 m) (κ.1.2.1 7 (κ.1.2.1 16 m).toNatClampNeg - κ.1.2.1 9 (κ.1.2.1 16 m).toNatClampNeg)
def q_peC (κ : cS) (m : Nat) : Int32 := q_pvC κ m * q_or (κ.1.2.1 33) 10 (κ.1.2.1 6 (κ.1.2.1 16 m).toNatClampNeg) (-1)
def g_pour1 (κ : cS) (m : Nat) : cS := cl (cl (cp (cp (cp κ 9 (κ.1.2.1 16 m).toNatClampNeg (κ.1.2.1 9 (κ.1.2.1 16 m).toNatClampNeg + q_pvC κ m)) 21 m (κ.1.2.1 21 m - q_pvC κ m)) 22 m (κ.1.2.1 22 m + q_peC κ m)) 3 (κ.1.2.2 3 + (q_pvC κ m).toInt64)) 6 (κ.1.2.2 6 + (q_peC κ m).toInt64)
def g_pour (κ : cS) (m : Nat) : cS := if 0 < q_pvC κ m then g_keep (g_pour1 κ m) m (q_pvC κ m) (κ.1.1 28) else κ
def g_walk1 (κ : cS) (m : Nat) : cS := if κ.1.2.1 20 m ≤ 0 then (if κ.1.2.1 19 m = 1 then g_down (g_pour κ m) m else g_join κ m) else κ
def g_walk (κ : cS) (m : Nat) : cS := if κ.1.2.1 19 m = 0 ∨ κ.1.2.1 41 m = κ.1.1 28 then κ else g_walk1 (cp κ 20 m (κ.1.2.1 20 m - 1)) m
def q_dvC (κ : cS) (j : Nat) : Int32 := q_min (κ.1.2.1 10 j) (κ.1.2.1 9 j)
def g_drink (κ : cS) (j : Nat) : cS := cl (cp (cp κ 9 j (κ.1.2.1 9 j - q_dvC κ j)) 11 j (κ.1.2.1 11 j + q_dvC κ j)) 4 (κ.1.2.2 4 + (q_dvC κ j).toInt64)
set_option maxRecDepth 100000 in
set_option maxHeartbeats 4000000 in
theorem c_keep {l : Launch} {g : ab_G} {M : ab_M} {α : Nat → Nat → Nat} {nf nj nm : Nat} {κ : cS} (hC : CC g M α nf nj nm κ) (hI : cI0 nf nj nm κ) {m q : Nat} (hm : m < nm) (hq : κ.1.1 42 = nI q) (hq1 : q < 100) {v t : Int32} : AM l g Y_X6_keep 1 21 0 0 [.ref (α 5 0), .ref (α 15 m), .int v, .int t] M (ab_Qv (fun M' => CC g M' α nf nj nm (g_keep κ m v t) ∧ KH M M')) := by
  refine AM.of [some (.ref (α 5 0)), some (.ref (α 15 m)), some (.int v), some (.int t), none] (by decide +kernel) (Nat.le_of_ble_eq_true rfl) rfl ?_
  obtain ⟨ji, hji, eji⟩ := hI.2.2.2.1 m hm
  have hb := hI.1
  have hK : KH M M := KT.rf
  have c2 := nI_cl (n := ji) (by omega)
  obtain ⟨z0, z1, z2, z3, z4, z5⟩ := in6 hq hq1
  refine aw_aload_n dX6_keep_0 rfl ?_
  refine aw_get dX6_keep_1 fg_X6_15_7 hC.2.2.1.1 rfl ?_
  refine aw_bipush (v := 6) dX6_keep_4 (by decide) ?_
  refine aw_imul dX6_keep_6 ?_
  refine aw_istore dX6_keep_7 rfl (by decide) ?_
  show AW _ _ _ _ _ _ _ _ _ 9 _ _ _
  refine aw_aload_n dX6_keep_9 rfl ?_
  refine aw_get dX6_keep_10 fg_X6_11_7 hC.2.2.1.1 rfl ?_
  refine aw_iload dX6_keep_13 rfl ?_
  refine aw_iconst (v := 0) dX6_keep_15 (by decide) ?_
  refine aw_iadd dX6_keep_16 ?_
  show AW _ _ _ _ _ _ _ _ _ 17 _ _ _
  refine aw_aload_n dX6_keep_17 rfl ?_
  refine aw_get dX6_keep_18 (fM_X6_22 _) (gM hC hm) rfl ?_
  refine cw_s_facts dX6_keep_21 z0 hC hK (fun M hC hK => ?_)
  refine aw_aload_n dX6_keep_22 rfl ?_
  refine aw_get dX6_keep_23 fg_X6_11_7 hC.2.2.1.1 rfl ?_
  show AW _ _ _ _ _ _ _ _ _ 26 _ _ _
  refine aw_iload dX6_keep_26 rfl ?_
  refine aw_iconst (v := 1) dX6_keep_28 (by decide) ?_
  refine aw_iadd dX6_keep_29 ?_
  refine aw_aload_n dX6_keep_30 rfl ?_
  refine cw_gM3 dX6_keep_31 (fM_X6_27 _) hC hm eji (by omega) ?_
  show AW _ _ _ _ _ _ _ _ _ 34 _ _ _
  refine aw_get dX6_keep_34 fg_X6_31_5 (gJ hC hji) rfl ?_
  refine cw_s_facts dX6_keep_37 z1 hC hK (fun M hC hK => ?_)
  refine aw_aload_n dX6_keep_38 rfl ?_
  refine aw_get dX6_keep_39 fg_X6_11_7 hC.2.2.1.1 rfl ?_
  refine aw_iload dX6_keep_42 rfl ?_
  show AW _ _ _ _ _ _ _ _ _ 44 _ _ _
  refine aw_iconst (v := 2) dX6_keep_44 (by decide) ?_
  refine aw_iadd dX6_keep_45 ?_
  refine aw_iload_n dX6_keep_46 rfl ?_
  refine cw_s_facts dX6_keep_47 z2 hC hK (fun M hC hK => ?_)
  refine aw_aload_n dX6_keep_48 rfl ?_
  show AW _ _ _ _ _ _ _ _ _ 49 _ _ _
  refine aw_get dX6_keep_49 fg_X6_11_7 hC.2.2.1.1 rfl ?_
  refine aw_iload dX6_keep_52 rfl ?_
  refine aw_iconst (v := 3) dX6_keep_54 (by decide) ?_
  refine aw_iadd dX6_keep_55 ?_
  refine aw_iload_n dX6_keep_56 rfl ?_
  show AW _ _ _ _ _ _ _ _ _ 57 _ _ _
  refine cw_s_facts dX6_keep_57 z3 hC hK (fun M hC hK => ?_)
  refine aw_aload_n dX6_keep_58 rfl ?_
  refine aw_get dX6_keep_59 fg_X6_11_7 hC.2.2.1.1 rfl ?_
  refine aw_iload dX6_keep_62 rfl ?_
  refine aw_iconst (v := 4) dX6_keep_64 (by decide) ?_
  show AW _ _ _ _ _ _ _ _ _ 65 _ _ _
  refine aw_iadd dX6_keep_65 ?_
  refine aw_aload_n dX6_keep_66 rfl ?_
  refine aw_get dX6_keep_67 (fM_X6_34 _) (gM hC hm) rfl ?_
  refine cw_s_facts dX6_keep_70 z4 hC hK (fun M hC hK => ?_)
  refine aw_aload_n dX6_keep_71 rfl ?_
  show AW _ _ _ _ _ _ _ _ _ 72 _ _ _
  refine aw_get dX6_keep_72 fg_X6_11_7 hC.2.2.1.1 rfl ?_
  refine aw_iload dX6_keep_75 rfl ?_
  refine aw_iconst (v := 5) dX6_keep_77 (by decide) ?_
  refine aw_iadd dX6_keep_78 ?_
  refine aw_aload_n dX6_keep_79 rfl ?_
  show AW _ _ _ _ _ _ _ _ _ 80 _ _ _
  refine aw_get dX6_keep_80 (fM_X6_37 _) (gM hC hm) rfl ?_
  refine cw_s_facts dX6_keep_83 z5 hC hK (fun M hC hK => ?_)
  refine aw_aload_n dX6_keep_84 rfl ?_
  refine aw_aload_n dX6_keep_85 rfl ?_
  refine aw_get dX6_keep_86 fg_X6_15_7 hC.2.2.1.1 rfl ?_
  show AW _ _ _ _ _ _ _ _ _ 89 _ _ _
  refine aw_iconst (v := 1) dX6_keep_89 (by decide) ?_
  refine aw_iadd dX6_keep_90 ?_
  refine aw_bipush (v := 100) dX6_keep_91 (by decide) ?_
  refine aw_irem dX6_keep_93 (by decide) ?_
  refine cw_pP1 dX6_keep_94 fl_X6_15_7 hC hK (fun M hC hK => ?_)
  show AW _ _ _ _ _ _ _ _ _ 97 _ _ _
  refine aw_aload_n dX6_keep_97 rfl ?_
  refine aw_bipush (v := 100) dX6_keep_98 (by decide) ?_
  refine aw_aload_n dX6_keep_100 rfl ?_
  refine aw_get dX6_keep_101 fg_X6_19_7 hC.2.2.1.1 rfl ?_
  refine aw_iconst (v := 1) dX6_keep_104 (by decide) ?_
  show AW _ _ _ _ _ _ _ _ _ 105 _ _ _
  refine aw_iadd dX6_keep_105 ?_
  refine aw_S2i (kc' := 0) (ks' := 0) dX6_keep_106 cs_X6_40 j_min rfl (Nat.le_of_ble_eq_true rfl) (fun x106 M106 h106 => ?_)
  obtain ⟨rfl, e106⟩ := h106
  replace e106 := e106.symm
  subst e106
  refine cw_pP2 dX6_keep_109 fl_X6_19_7 hC hK (fun M hC hK => ?_)
  exact aw_vret dX6_keep_112 rfl ⟨by rw [g_keep, eji]; exact hC, hK⟩
set_option maxRecDepth 100000 in
set_option maxHeartbeats 4000000 in
theorem c_letFlow {l : Launch} {g : ab_G} {M : ab_M} {α : Nat → Nat → Nat} {nf nj nm : Nat} {κ : cS} (hC : CC g M α nf nj nm κ) (hI : cI0 nf nj nm κ) {i : Nat} (hi : i < nf) : AM l g Y_X8_letFlow 1 21 0 0 [.ref (α 0 0), .ref (α 10 i)] M (ab_Qv (fun M' => CC g M' α nf nj nm (g_flow κ i) ∧ KH M M')) := by
  refine AM.of [some (.ref (α 0 0)), some (.ref (α 10 i)), none, none] (by decide +kernel) (Nat.le_of_ble_eq_true rfl) rfl ?_
  have hb := hI.1
  have hK : KH M M := KT.rf
  refine aw_aload_n dX8_letFlow_0 rfl ?_
  refine aw_get dX8_letFlow_1 fg_X8_130_3 (gF hC hi) rfl ?_
  refine aw_if_ne (tgt := 8) dX8_letFlow_4 (by decide) (fun h4 => ?_) (fun h4 => ?_)
  · refine aw_aload_n dX8_letFlow_8 rfl ?_
    refine aw_get dX8_letFlow_9 fg_X8_244_3 (gF hC hi) rfl ?_
    show AW _ _ _ _ _ _ _ _ _ 12 _ _ _
    refine aw_aload_n dX8_letFlow_12 rfl ?_
    refine aw_get dX8_letFlow_13 fg_X8_51_9 hC.1 rfl ?_
    refine aw_imul dX8_letFlow_16 ?_
    refine aw_bipush (v := 100) dX8_letFlow_17 (by decide) ?_
    refine aw_idiv dX8_letFlow_19 (by decide) ?_
    show AW _ _ _ _ _ _ _ _ _ 20 _ _ _
    refine aw_istore_n dX8_letFlow_20 rfl (by decide) ?_
    refine aw_iconst (v := 0) dX8_letFlow_21 (by decide) ?_
    refine aw_aload_n dX8_letFlow_22 rfl ?_
    refine aw_get dX8_letFlow_23 fg_X8_175_3 (gF hC hi) rfl ?_
    refine aw_iload_n dX8_letFlow_26 rfl ?_
    show AW _ _ _ _ _ _ _ _ _ 27 _ _ _
    refine aw_iadd dX8_letFlow_27 ?_
    refine aw_sipush (v := 300) dX8_letFlow_28 (by decide) ?_
    refine aw_isub dX8_letFlow_31 ?_
    refine aw_S2i (kc' := 0) (ks' := 0) dX8_letFlow_32 cs_X8_247 j_max rfl (Nat.le_of_ble_eq_true rfl) (fun x32 M32 h32 => ?_)
    obtain ⟨rfl, e32⟩ := h32
    replace e32 := e32.symm
    subst e32
    refine aw_istore_n dX8_letFlow_35 rfl (by decide) ?_
    show AW _ _ _ _ _ _ _ _ _ 36 _ _ _
    refine aw_aload_n dX8_letFlow_36 rfl ?_
    refine aw_dup dX8_letFlow_37 rfl ?_
    refine aw_get dX8_letFlow_38 fg_X8_175_3 (gF hC hi) rfl ?_
    refine aw_iload_n dX8_letFlow_41 rfl ?_
    refine aw_iload_n dX8_letFlow_42 rfl ?_
    show AW _ _ _ _ _ _ _ _ _ 43 _ _ _
    refine aw_isub dX8_letFlow_43 ?_
    refine aw_iadd dX8_letFlow_44 ?_
    refine cw_pF4 dX8_letFlow_45 fl_X8_175_3 hC hi hK (fun M hC hK => ?_)
    refine aw_aload_n dX8_letFlow_48 rfl ?_
    refine aw_dup dX8_letFlow_49 rfl ?_
    show AW _ _ _ _ _ _ _ _ _ 50 _ _ _
    refine aw_get dX8_letFlow_50 fg_X8_178_3 (gF hC hi) rfl ?_
    refine aw_iload_n dX8_letFlow_53 rfl ?_
    refine aw_iadd dX8_letFlow_54 ?_
    refine cw_pF5 dX8_letFlow_55 fl_X8_178_3 hC hi hK (fun M hC hK => ?_)
    refine aw_aload_n dX8_letFlow_58 rfl ?_
    show AW _ _ _ _ _ _ _ _ _ 59 _ _ _
    refine aw_get dX8_letFlow_59 fg_X8_43_9 hC.1 rfl ?_
    refine aw_iconst (v := 0) dX8_letFlow_62 (by decide) ?_
    refine aw_dup2 dX8_letFlow_63 rfl rfl ?_
    refine aw_lald dX8_letFlow_64 hC.2.2.2.2.1 (by first | assumption | (unfold vp_in; decide)) ?_
    refine aw_iload_n dX8_letFlow_65 rfl ?_
    show AW _ _ _ _ _ _ _ _ _ 66 _ _ _
    refine aw_i2l dX8_letFlow_66 ?_
    refine aw_ladd dX8_letFlow_67 ?_
    refine cw_s_sums dX8_letFlow_68 (by unfold vp_in; decide) hC hK (fun M hC hK => ?_)
    refine aw_aload_n dX8_letFlow_69 rfl ?_
    refine aw_get dX8_letFlow_70 fg_X8_43_9 hC.1 rfl ?_
    show AW _ _ _ _ _ _ _ _ _ 73 _ _ _
    refine aw_iconst (v := 1) dX8_letFlow_73 (by decide) ?_
    refine aw_dup2 dX8_letFlow_74 rfl rfl ?_
    refine aw_lald dX8_letFlow_75 hC.2.2.2.2.1 (by first | assumption | (unfold vp_in; decide)) ?_
    refine aw_iload_n dX8_letFlow_76 rfl ?_
    refine aw_i2l dX8_letFlow_77 ?_
    show AW _ _ _ _ _ _ _ _ _ 78 _ _ _
    refine aw_ladd dX8_letFlow_78 ?_
    refine cw_s_sums dX8_letFlow_79 (by first | assumption | (unfold vp_in; decide)) hC hK (fun M hC hK => ?_)
    exact aw_vret dX8_letFlow_80 rfl ⟨by rw [g_flow, if_neg h4]; exact hC, hK⟩
  · exact aw_vret dX8_letFlow_7 rfl ⟨by rw [g_flow, if_pos h4]; exact hC, hK⟩
set_option maxRecDepth 100000 in
set_option maxHeartbeats 4000000 in
theorem c_pour {l : Launch} {g : ab_G} {M : ab_M} {α : Nat → Nat → Nat} {nf nj nm : Nat} {κ : cS} (hC : CC g M α nf nj nm κ) (hI : cI0 nf nj nm κ) {m q : Nat} (hm : m < nm) (hq : κ.1.1 42 = nI q) (hq1 : q < 100) : AM l g Y_X8_pour 2 45 0 0 [.ref (α 0 0), .ref (α 15 m)] M (ab_Qv (fun M' => CC g M' α nf nj nm (g_pour κ m) ∧ KH M M')) := by
  refine AM.of [some (.ref (α 0 0)), some (.ref (α 15 m)), none, none, none] (by decide +kernel) (Nat.le_of_ble_eq_true rfl) rfl ?_
  obtain ⟨ji, hji, eji⟩ := hI.2.2.2.1 m hm
  have hb := hI.1
  have hK : KH M M := KT.rf
  have c2 := nI_cl (n := ji) (by omega)
  have ev : q_pvC κ m = q_min (κ.1.2.1 21 m) (κ.1.2.1 7 ji - κ.1.2.1 9 ji) := by rw [q_pvC, eji, c2]
  have ee : q_peC κ m = q_pvC κ m * q_or (κ.1.2.1 33) 10 (κ.1.2.1 6 ji) (-1) := by rw [q_peC, eji, c2]
  refine aw_aload_n dX8_pour_0 rfl ?_
  refine cw_gM3 dX8_pour_1 (fM_X8_126 _) hC hm eji (by omega) ?_
  refine aw_astore_n dX8_pour_4 rfl (by decide) ?_
  refine aw_aload_n dX8_pour_5 rfl ?_
  refine aw_get dX8_pour_6 (fM_X8_155 _) (gM hC hm) rfl ?_
  show AW _ _ _ _ _ _ _ _ _ 9 _ _ _
  refine aw_aload_n dX8_pour_9 rfl ?_
  refine aw_get dX8_pour_10 fg_X8_278_5 (gJ hC hji) rfl ?_
  refine aw_aload_n dX8_pour_13 rfl ?_
  refine aw_get dX8_pour_14 fg_X8_181_5 (gJ hC hji) rfl ?_
  refine aw_isub dX8_pour_17 ?_
  show AW _ _ _ _ _ _ _ _ _ 18 _ _ _
  refine aw_S2i (kc' := 0) (ks' := 0) dX8_pour_18 cs_X8_259 j_min rfl (Nat.le_of_ble_eq_true rfl) (fun x18 M18 h18 => ?_)
  obtain ⟨rfl, e18⟩ := h18
  replace e18 := e18.symm
  subst e18
  rw [← ev]
  refine aw_istore_n dX8_pour_21 rfl (by decide) ?_
  refine aw_iload_n dX8_pour_22 rfl ?_
  refine aw_if_gt (tgt := 27) dX8_pour_23 (by decide) (fun h23 => ?_) (fun h23 => ?_)
  · refine aw_iload_n dX8_pour_27 rfl ?_
    show AW _ _ _ _ _ _ _ _ _ 28 _ _ _
    refine aw_aload_n dX8_pour_28 rfl ?_
    refine aw_get dX8_pour_29 fg_X8_25_9 hC.1 rfl ?_
    refine aw_aload_n dX8_pour_32 rfl ?_
    refine aw_get dX8_pour_33 fg_X8_281_5 (gJ hC hji) rfl ?_
    refine aw_V1i (kc' := 0) (ks' := 0) dX8_pour_36 cs_X8_141_2 hC.2.1.1 (c_priceOf hC.2.1.1 hC.2.1.2.2.1) rfl (Nat.le_of_ble_eq_true rfl) (fun x36 M36 h36 => ?_)
    obtain ⟨rfl, e36⟩ := h36
    replace e36 := e36.symm
    subst e36
    show AW _ _ _ _ _ _ _ _ _ 39 _ _ _
    refine aw_imul dX8_pour_39 ?_
    rw [← ee]
    refine aw_istore dX8_pour_40 rfl (by decide) ?_
    refine aw_aload_n dX8_pour_42 rfl ?_
    refine aw_dup dX8_pour_43 rfl ?_
    refine aw_get dX8_pour_44 fg_X8_181_5 (gJ hC hji) rfl ?_
    show AW _ _ _ _ _ _ _ _ _ 47 _ _ _
    refine aw_iload_n dX8_pour_47 rfl ?_
    refine aw_iadd dX8_pour_48 ?_
    refine cw_pJ4 dX8_pour_49 fl_X8_181_5 hC hji hK (fun M hC hK => ?_)
    refine aw_aload_n dX8_pour_52 rfl ?_
    refine aw_dup dX8_pour_53 rfl ?_
    show AW _ _ _ _ _ _ _ _ _ 54 _ _ _
    refine aw_get dX8_pour_54 (fM_X8_155 _) (gM hC hm) rfl ?_
    refine aw_iload_n dX8_pour_57 rfl ?_
    refine aw_isub dX8_pour_58 ?_
    refine cw_pM7 dX8_pour_59 (pM_X8_155 _) hC hm hK (fun M hC hK => ?_)
    refine aw_aload_n dX8_pour_62 rfl ?_
    show AW _ _ _ _ _ _ _ _ _ 63 _ _ _
    refine aw_dup dX8_pour_63 rfl ?_
    refine aw_get dX8_pour_64 (fM_X8_158 _) (gM hC hm) rfl ?_
    refine aw_iload dX8_pour_67 rfl ?_
    refine aw_iadd dX8_pour_69 ?_
    refine cw_pM8 dX8_pour_70 (pM_X8_158 _) hC hm hK (fun M hC hK => ?_)
    show AW _ _ _ _ _ _ _ _ _ 73 _ _ _
    refine aw_aload_n dX8_pour_73 rfl ?_
    refine aw_get dX8_pour_74 fg_X8_43_9 hC.1 rfl ?_
    refine aw_iconst (v := 3) dX8_pour_77 (by decide) ?_
    refine aw_dup2 dX8_pour_78 rfl rfl ?_
    refine aw_lald dX8_pour_79 hC.2.2.2.2.1 (by first | assumption | (unfold vp_in; decide)) ?_
    show AW _ _ _ _ _ _ _ _ _ 80 _ _ _
    refine aw_iload_n dX8_pour_80 rfl ?_
    refine aw_i2l dX8_pour_81 ?_
    refine aw_ladd dX8_pour_82 ?_
    refine cw_s_sums dX8_pour_83 (by unfold vp_in; decide) hC hK (fun M hC hK => ?_)
    refine aw_aload_n dX8_pour_84 rfl ?_
    show AW _ _ _ _ _ _ _ _ _ 85 _ _ _
    refine aw_get dX8_pour_85 fg_X8_43_9 hC.1 rfl ?_
    refine aw_bipush (v := 6) dX8_pour_88 (by decide) ?_
    refine aw_dup2 dX8_pour_90 rfl rfl ?_
    refine aw_lald dX8_pour_91 hC.2.2.2.2.1 (by first | assumption | (unfold vp_in; decide)) ?_
    refine aw_iload dX8_pour_92 rfl ?_
    show AW _ _ _ _ _ _ _ _ _ 94 _ _ _
    refine aw_i2l dX8_pour_94 ?_
    refine aw_ladd dX8_pour_95 ?_
    refine cw_s_sums dX8_pour_96 (by first | assumption | (unfold vp_in; decide)) hC hK (fun M hC hK => ?_)
    refine aw_aload_n dX8_pour_97 rfl ?_
    refine aw_get dX8_pour_98 fg_X8_32_9 hC.1 rfl ?_
    show AW _ _ _ _ _ _ _ _ _ 101 _ _ _
    refine aw_aload_n dX8_pour_101 rfl ?_
    refine aw_iload_n dX8_pour_102 rfl ?_
    refine aw_aload_n dX8_pour_103 rfl ?_
    refine aw_get dX8_pour_104 fg_X8_47_9 hC.1 rfl ?_
    replace hC : CC g M α nf nj nm (g_pour1 κ m) := by rw [g_pour1, eji, c2]; exact hC
    refine aw_V3v (kc' := 0) (ks' := 0) dX8_pour_107 cs_X8_284_7 hC.2.2.1.1 (c_keep hC (show cI0 nf nj nm (g_pour1 κ m) from hI) hm hq hq1) rfl (Nat.le_of_ble_eq_true rfl) (fun M107 h107 => ?_)
    obtain ⟨hC, hK9⟩ := h107
    replace hK := hK.tr hK9
    show AW _ _ _ _ _ _ _ _ _ 110 _ _ _
    exact aw_vret dX8_pour_110 rfl ⟨by rw [g_pour, if_pos h23]; exact hC, hK⟩
  · exact aw_vret dX8_pour_26 rfl ⟨by rw [g_pour, if_neg h23]; exact hC, hK⟩
