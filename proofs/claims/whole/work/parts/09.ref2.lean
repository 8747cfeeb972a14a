theorem in_10 {f : Int32} (h : q_in f 0 9 = true) : vp_in f 10 := by
  have h1 := q_in_iff.mp h
  rw [vp_in_iff]
  rw [t_0, show (9 : Int32).toInt = 9 by decide] at h1
  omega
theorem in_7 {f : Int32} (h : q_in f 0 7 = true) (h7 : ¬ f = 7) : vp_in f 7 := by
  have h1 := q_in_iff.mp h
  have h2 : f.toInt ≠ (7 : Int32).toInt := fun e => h7 (Int32.toInt_inj.mp e)
  rw [vp_in_iff]
  rw [show (7 : Int32).toInt = 7 by decide] at h2
  rw [t_0, show (7 : Int32).toInt = 7 by decide] at h1
  omega
theorem t_8 : (8 : Int32).toInt = 8 := by decide
theorem t_10 : (10 : Int32).toInt = 10 := by decide
/-! ===== the reference's methods, 2 ===== -/
section SW
variable {l : Launch} {g : ab_G} {X : State → Array Value → Prop} {Z : List Frame → Array Value → State → Room → State → Prop} {y : ab_Y} {F Lw kc ks : Nat} {pc : Nat} {L : List (Option Value)} {st : List Value} {M : ab_M}
theorem aw_swAt (c : Int32) {dflt lo hi : Int} {offs : Array Int} {len : Nat} {x : Int32} {off : Int} {tgt : Nat} (hx : x = c) (hd : decode y.2.1 pc = .ok (.tableswitch dflt lo hi offs, len)) (h1 : ¬ c.toInt < lo) (h2 : ¬ hi < c.toInt) (ho : offs[(c.toInt - lo).toNat]? = some off) (ht : (pc : Int) + off = (tgt : Int)) (k : AW l g X Z y F Lw kc ks tgt L st M) : AW l g X Z y F Lw kc ks pc L (.int x :: st) M := by
  subst hx
  exact aw_swIn hd h1 h2 ho ht k
theorem aw_lswAt (c : Int32) {dflt : Int} {ps : Array (Int × Int)} {len : Nat} {x : Int32} {off : Int} {tgt : Nat} (hx : x = c) (hd : decode y.2.1 pc = .ok (.lookupswitch dflt ps, len)) (hp : (ps.toList.zip (ps.toList.drop 1)).all (fun (a, next) => a.1 < next.1) = true) (ho : Op.lookupswitch.offset ps.toList dflt c.toInt = off) (ht : (pc : Int) + off = (tgt : Int)) (k : AW l g X Z y F Lw kc ks tgt L st M) : AW l g X Z y F Lw kc ks pc L (.int x :: st) M := by
  subst hx
  exact aw_lsw hd hp ho ht k
end SW
theorem ne_toInt {x c : Int32} (h : ¬ x = c) : x.toInt ≠ c.toInt := fun e => h (Int32.toInt_inj.mp e)
abbrev rpz (σ : rS) (k : Nat) (i v : Int32) : rS := ra σ k (upd (σ.2.1 k) i.toNatClampNeg (vp_nar .boolean v))
/-- a man that is there -/
def mI (σ : rS) (m : Int32) : Prop := 0 ≤ m.toInt ∧ m.toInt < (σ.1 12).toInt
theorem mI_in {σ : rS} {m : Int32} (hI : rI σ) (h : mI σ m) : vp_in m 10 := by
  have h2 := hI.2.2.1
  unfold mI at h
  rw [vp_in_iff]
  omega
theorem isM_m {σ : rS} {j : Int32} (hI : rI σ) (h : q_isM σ j = true) : mI σ j := by
  have h1 := q_in_iff.mp h
  have h2 := hI.2.2.1
  rw [t_0, t_sub1 h2.1] at h1
  unfold mI
  omega
theorem clamp_lt {x : Int32} {n : Nat} (h : vp_in x n) : x.toNatClampNeg < n ∧ ((x.toNatClampNeg : Int) = x.toInt) := by
  rw [vp_in_iff] at h
  have e : x.toNatClampNeg = x.toInt.toNat := rfl
  omega
theorem rI_F {σ : rS} {m : Int32} (hI : rI σ) (hm : vp_in m 10) : vp_in (rg σ 15 m) 4 := by
  have := hI.2.2.2.2.2.1 _ (clamp_lt hm).1
  rw [vp_in_iff]
  exact this
theorem rI_J {σ : rS} {m : Int32} (hI : rI σ) (hm : vp_in m 10) : vp_in (rg σ 16 m) 8 := by
  have := hI.2.2.2.2.2.2.1 _ (clamp_lt hm).1
  rw [vp_in_iff]
  exact this
theorem t_4 : (4 : Int32).toInt = 4 := by decide
theorem in_away {σ : rS} {m j : Int32} (hI : rI σ) (hm : vp_in m 10) (hj : vp_in j 8) : vp_in (4 * j + rg σ 15 m) 32 := by
  have h1 := rI_F hI hm
  rw [vp_in_iff] at h1 hj ⊢
  have e1 : (4 * j).toInt = 4 * j.toInt := by rw [fb_mulI (by rw [t_4]; omega) (by rw [t_4]; omega), t_4]
  rw [fb_addI (by omega) (by omega)]
  omega
theorem pace_ne {σ : rS} {m : Int32} (hI : rI σ) (h : mI σ m) : ¬ rg σ 18 m = 0 := by
  intro e
  have hc := (clamp_lt (mI_in hI h)).2
  unfold mI at h
  have h1 := (hI.2.2.2.2.2.2.2.1 m.toNatClampNeg (by omega)).1
  have h2 : (σ.2.1 18 m.toNatClampNeg).toInt = 0 := by rw [show σ.2.1 18 m.toNatClampNeg = 0 from e]; rfl
  omega
def q_isMin (σ : rS) (f m : Int32) : Bool := decide (σ.1 0 ≤ f) || q_in m 1 30
def q_canGo (σ : rS) (k j : Int32) : Bool := decide (0 < k) || decide (rg σ 6 j ≤ 4)
def q_way (σ : rS) (m j u : Int32) : Int32 := if rg σ 13 m = 0 then (if u = 0 then rg σ 8 (4 * j + rg σ 15 m) else rg σ 8 (4 * j + rg σ 15 m) + rg σ 6 j) else if rg σ 13 m = 1 then (if u = 0 then rg σ 8 (4 * j + rg σ 15 m) else rg σ 8 (4 * j + rg σ 15 m) + (rg σ 6 j + 1) / 2) else (rg σ 8 (4 * j + rg σ 15 m) + rg σ 18 m - 1) / rg σ 18 m
def q_ahead (σ : rS) (a b : Int32) : Bool := decide (rg σ 17 b < rg σ 17 a) || (decide (rg σ 17 a = rg σ 17 b) && decide (rg σ 23 a < rg σ 23 b))
def f_join (σ : rS) (m : Int32) : rS := rs (rp (rp (rp σ 19 m 0) 20 m 0) 23 m (σ.1 26)) 26 (σ.1 26 + 1)
def f_down (σ : rS) (m : Int32) : rS := rp (rp σ 19 m 2) 20 m (q_way (rp σ 19 m 2) m (rg σ 16 m) 0)
def f_fountain (σ : rS) (w : Int32) : Int32 × rS := if q_in w 1 20 = true then (if σ.1 5 ≤ 0 then (if σ.1 0 = 4 then (-3, σ) else (σ.1 0 + 1 - 1, rs (rpz (rp σ 1 (σ.1 0) w) 3 (σ.1 0) 1) 0 (σ.1 0 + 1))) else (-2, σ)) else (-1, σ)
def f_jar (σ : rS) (fl ho a b c d : Int32) : Int32 × rS := if (q_in fl 0 9 && (q_in ho 1 200 && (q_isMin σ 0 a && (q_isMin σ 1 b && (q_isMin σ 2 c && q_isMin σ 3 d))))) = true then (if σ.1 0 = 0 then (-2, σ) else if σ.1 5 = 8 then (-3, σ) else (σ.1 5 + 1 - 1, rs (rp (rp (rp (rp (rp (rp σ 6 (σ.1 5) fl) 7 (σ.1 5) ho) 8 (4 * σ.1 5) a) 8 (4 * σ.1 5 + 1) b) 8 (4 * σ.1 5 + 2) c) 8 (4 * σ.1 5 + 3) d) 5 (σ.1 5 + 1))) else (-1, σ)
def f_man (σ : rS) (k w f j : Int32) : Int32 × rS := if (q_in k 0 2 && (q_in w 1 40 && (q_isF σ f && q_isJ σ j))) = true then (if q_canGo σ k j = true then (if σ.1 12 = 10 then (-3, σ) else (σ.1 12 + 1 - 1, rs (f_join (rp (rp (rp (rp (rp σ 13 (σ.1 12) k) 14 (σ.1 12) w) 15 (σ.1 12) f) 16 (σ.1 12) j) 18 (σ.1 12) 2) (σ.1 12)) 12 (σ.1 12 + 1))) else (-2, σ)) else (-1, σ)
def f_right (σ : rS) (m r : Int32) : Int32 × rS := if (q_isM σ m && q_in r 0 3) = true then (rg σ 17 m, rp σ 17 m r) else (-1, σ)
def f_pace (σ : rS) (m r : Int32) : Int32 × rS := if (q_isM σ m && q_in r 1 5) = true then (if rg σ 13 m = 2 then (rg σ 18 m, rp σ 18 m r) else (-13, σ)) else (-1, σ)
def f_moves (σ : rS) (m f j : Int32) : Int32 × rS := if (q_isM σ m && (q_isF σ f && q_isJ σ j)) = true then (if rg σ 19 m = 0 then (if q_canGo σ (rg σ 13 m) j = true then (1, f_join (rp (rp σ 15 m f) 16 m j) m) else (-2, σ)) else (-2, σ)) else (-1, σ)
def f_open (σ : rS) (f b : Int32) : Int32 × rS := if q_isF σ f = true then (if rg σ 3 f = 0 then (0, rpz σ 3 f b) else (1, rpz σ 3 f b)) else (-1, σ)
def f_drought (σ : rS) (p : Int32) : Int32 × rS := if q_in p 0 100 = true then (σ.1 27, rs σ 27 p) else (-1, σ)
def f_fare (σ : rS) (f : Int32) : Int32 := if q_in f 0 9 = true then rg σ 33 f else -1
def f_given (σ : rS) (m : Int32) : Int32 := if q_isM σ m = true then rg σ 40 m else -1
def f_sum (σ : rS) (w : Int32) : Int64 := if q_in w 0 7 = true then (if w = 7 then (σ.1 28).toInt64 else σ.2.2 w.toNatClampNeg) else -1
def f_water (σ : rS) (i w : Int32) : Int32 := if w = 0 then (if q_isF σ i = true then rg σ 2 i else -1) else if w = 1 then (if q_isJ σ i = true then rg σ 9 i else -1) else if w = 2 then (if q_isF σ i = true then rg σ 4 i else -1) else if w = 3 then (if q_isJ σ i = true then rg σ 11 i else -1) else -1
set_option maxRecDepth 100000 in
set_option maxHeartbeats 4000000 in
theorem r_isMinutes {l : Launch} {g : ab_G} {M : ab_M} {a0 : Nat} {ρ : Nat → Nat} {σ : rS} (hR : RR g M a0 ρ σ) {f m : Int32} : AM l g Y_X9_isMinutes 1 22 0 0 [.ref a0, .int f, .int m] M (ab_Qi (fun x M' => x = b2i (q_isMin σ f m) ∧ M' = M)) := by
  refine AM.of [some (.ref a0), some (.int f), some (.int m)] (by decide +kernel) (Nat.le_of_ble_eq_true rfl) rfl ?_
  refine aw_iload_n dX9_isMinutes_0 rfl ?_
  refine aw_aload_n dX9_isMinutes_1 rfl ?_
  refine aw_get dX9_isMinutes_2 fg_X9_119_10 hR.1 rfl ?_
  refine aw_icmp_ge (tgt := 18) dX9_isMinutes_5 (by decide) (fun h5 => ?_) (fun h5 => ?_)
  · refine aw_iconst (v := 1) dX9_isMinutes_18 (by decide) ?_
    refine aw_goto (tgt := 23) dX9_isMinutes_19 (by decide) ?_
    exact aw_zret dX9_isMinutes_23 rfl rfl ⟨by simp_all [q_isMin, b2i], rfl⟩
  · refine aw_iload_n dX9_isMinutes_8 rfl ?_
    refine aw_iconst (v := 1) dX9_isMinutes_9 (by decide) ?_
    refine aw_bipush (v := 30) dX9_isMinutes_10 (by decide) ?_
    refine aw_S3i (kc' := 0) (ks' := 0) dX9_isMinutes_12 cs_X9_112 r_in rfl (Nat.le_of_ble_eq_true rfl) (fun x12 M12 h12 => ?_)
    obtain ⟨rfl, rfl⟩ := h12
    refine aw_if_eq (tgt := 22) dX9_isMinutes_15 (by decide) (fun h15 => ?_) (fun h15 => ?_)
    · replace h15 := b2i_0.mp h15
      refine aw_iconst (v := 0) dX9_isMinutes_22 (by decide) ?_
      exact aw_zret dX9_isMinutes_23 rfl rfl ⟨by simp_all [q_isMin, b2i], rfl⟩
    · replace h15 := b2i_n.mp h15
      refine aw_iconst (v := 1) dX9_isMinutes_18 (by decide) ?_
      refine aw_goto (tgt := 23) dX9_isMinutes_19 (by decide) ?_
      exact aw_zret dX9_isMinutes_23 rfl rfl ⟨by simp_all [q_isMin, b2i], rfl⟩
set_option maxRecDepth 100000 in
set_option maxHeartbeats 4000000 in
theorem r_canGo {l : Launch} {g : ab_G} {M : ab_M} {a0 : Nat} {ρ : Nat → Nat} {σ : rS} (hR : RR g M a0 ρ σ) {k j : Int32} (hj : vp_in j 8) : AM l g Y_X9_canGo 0 0 0 0 [.ref a0, .int k, .int j] M (ab_Qi (fun x M' => x = b2i (q_canGo σ k j) ∧ M' = M)) := by
  refine AM.of [some (.ref a0), some (.int k), some (.int j)] (by decide +kernel) (Nat.le_of_ble_eq_true rfl) rfl ?_
  refine aw_iload_n dX9_canGo_0 rfl ?_
  refine aw_if_gt (tgt := 14) dX9_canGo_1 (by decide) (fun h1 => ?_) (fun h1 => ?_)
  · refine aw_iconst (v := 1) dX9_canGo_14 (by decide) ?_
    refine aw_goto (tgt := 19) dX9_canGo_15 (by decide) ?_
    exact aw_zret dX9_canGo_19 rfl rfl ⟨by rw [b2i]; split <;> simp_all [q_canGo, rg, Int32.le_iff_toInt_le, Int32.lt_iff_toInt_lt] <;> omega, rfl⟩
  · refine aw_aload_n dX9_canGo_4 rfl ?_
    refine aw_get dX9_canGo_5 fg_X9_23_10 hR.1 rfl ?_
    refine aw_iload_n dX9_canGo_8 rfl ?_
    refine aw_iald dX9_canGo_9 (rr_6 hR) (by first | assumption | (unfold vp_in; decide)) ?_
    refine aw_iconst (v := 4) dX9_canGo_10 (by decide) ?_
    refine aw_icmp_gt (tgt := 18) dX9_canGo_11 (by decide) (fun h11 => ?_) (fun h11 => ?_)
    · refine aw_iconst (v := 0) dX9_canGo_18 (by decide) ?_
      exact aw_zret dX9_canGo_19 rfl rfl ⟨by rw [b2i]; split <;> simp_all [q_canGo, rg, Int32.le_iff_toInt_le, Int32.lt_iff_toInt_lt] <;> omega, rfl⟩
    · refine aw_iconst (v := 1) dX9_canGo_14 (by decide) ?_
      refine aw_goto (tgt := 19) dX9_canGo_15 (by decide) ?_
      exact aw_zret dX9_canGo_19 rfl rfl ⟨by rw [b2i]; split <;> simp_all [q_canGo, rg, Int32.le_iff_toInt_le, Int32.lt_iff_toInt_lt] <;> omega, rfl⟩
set_option maxRecDepth 100000 in
set_option maxHeartbeats 4000000 in
theorem r_joinRow {l : Launch} {g : ab_G} {M : ab_M} {a0 : Nat} {ρ : Nat → Nat} {σ : rS} (hR : RR g M a0 ρ σ) {m : Int32} (hm : vp_in m 10) : AM l g Y_X9_joinRow 0 0 0 0 [.ref a0, .int m] M (ab_Qv (fun M' => RR g M' a0 ρ (f_join σ m) ∧ KR M M')) := by
  refine AM.of [some (.ref a0), some (.int m)] (by decide +kernel) (Nat.le_of_ble_eq_true rfl) rfl ?_
  have hK : KR M M := KR.rf
  refine aw_aload_n dX9_joinRow_0 rfl ?_
  refine aw_get dX9_joinRow_1 fg_X9_59_10 hR.1 rfl ?_
  refine aw_iload_n dX9_joinRow_4 rfl ?_
  refine aw_iconst (v := 0) dX9_joinRow_5 (by decide) ?_
  refine rw_iast_19 dX9_joinRow_6 (by first | assumption | (unfold vp_in; decide)) hR hK (fun M hR hK => ?_)
  refine aw_aload_n dX9_joinRow_7 rfl ?_
  refine aw_get dX9_joinRow_8 fg_X9_62_10 hR.1 rfl ?_
  refine aw_iload_n dX9_joinRow_11 rfl ?_
  refine aw_iconst (v := 0) dX9_joinRow_12 (by decide) ?_
  refine rw_iast_20 dX9_joinRow_13 (by first | assumption | (unfold vp_in; decide)) hR hK (fun M hR hK => ?_)
  refine aw_aload_n dX9_joinRow_14 rfl ?_
  refine aw_get dX9_joinRow_15 fg_X9_71_10 hR.1 rfl ?_
  refine aw_iload_n dX9_joinRow_18 rfl ?_
  refine aw_aload_n dX9_joinRow_19 rfl ?_
  refine aw_get dX9_joinRow_20 fg_X9_133_10 hR.1 rfl ?_
  refine rw_iast_23 dX9_joinRow_23 (by first | assumption | (unfold vp_in; decide)) hR hK (fun M hR hK => ?_)
  refine aw_aload_n dX9_joinRow_24 rfl ?_
  refine aw_dup dX9_joinRow_25 rfl ?_
  refine aw_get dX9_joinRow_26 fg_X9_133_10 hR.1 rfl ?_
  refine aw_iconst (v := 1) dX9_joinRow_29 (by decide) ?_
  refine aw_iadd dX9_joinRow_30 ?_
  refine rw_put_26 dX9_joinRow_31 fl_X9_133_10 hR hK (fun M hR hK => ?_)
  exact aw_vret dX9_joinRow_34 rfl ⟨hR, hK⟩
set_option maxRecDepth 100000 in
set_option maxHeartbeats 4000000 in
theorem r_wayOf {l : Launch} {g : ab_G} {M : ab_M} {a0 : Nat} {ρ : Nat → Nat} {σ : rS} (hR : RR g M a0 ρ σ) (hI : rI σ) {m j u : Int32} (hm : mI σ m) (hj : vp_in j 8) : AM l g Y_X9_wayOf 0 0 0 0 [.ref a0, .int m, .int j, .int u] M (ab_Qi (fun x M' => x = q_way σ m j u ∧ M' = M)) := by
  refine AM.of [some (.ref a0), some (.int m), some (.int j), some (.int u), none] (by decide +kernel) (Nat.le_of_ble_eq_true rfl) rfl ?_
  have hm1 := mI_in hI hm
  have hw := in_away hI hm1 hj
  refine aw_aload_n dX9_wayOf_0 rfl ?_
  refine aw_get dX9_wayOf_1 fg_X9_29_10 hR.1 rfl ?_
  refine aw_iconst (v := 4) dX9_wayOf_4 (by decide) ?_
  refine aw_iload_n dX9_wayOf_5 rfl ?_
  refine aw_imul dX9_wayOf_6 ?_
  refine aw_aload_n dX9_wayOf_7 rfl ?_
  refine aw_get dX9_wayOf_8 fg_X9_47_10 hR.1 rfl ?_
  refine aw_iload_n dX9_wayOf_11 rfl ?_
  refine aw_iald dX9_wayOf_12 (rr_15 hR) (by first | assumption | (unfold vp_in; decide)) ?_
  refine aw_iadd dX9_wayOf_13 ?_
  refine aw_iald dX9_wayOf_14 (rr_8 hR) (by first | assumption | (unfold vp_in; decide)) ?_
  refine aw_istore dX9_wayOf_15 rfl (by decide) ?_
  refine aw_aload_n dX9_wayOf_17 rfl ?_
  refine aw_get dX9_wayOf_18 fg_X9_41_10 hR.1 rfl ?_
  refine aw_iload_n dX9_wayOf_21 rfl ?_
  refine aw_iald dX9_wayOf_22 (rr_13 hR) (by first | assumption | (unfold vp_in; decide)) ?_
  by_cases e0 : rg σ 13 m = 0
  · refine aw_lswAt 0 (off := 25) (tgt := 48) e0 dX9_wayOf_23 (by decide) (by decide) (by decide) ?_
    refine aw_iload_n dX9_wayOf_48 rfl ?_
    refine aw_if_eq (tgt := 64) dX9_wayOf_49 (by decide) (fun h49 => ?_) (fun h49 => ?_)
    · refine aw_iload dX9_wayOf_64 rfl ?_
      exact aw_iret dX9_wayOf_66 rfl ⟨by simp [q_way, *], rfl⟩
    · refine aw_iload dX9_wayOf_52 rfl ?_
      refine aw_aload_n dX9_wayOf_54 rfl ?_
      refine aw_get dX9_wayOf_55 fg_X9_23_10 hR.1 rfl ?_
      refine aw_iload_n dX9_wayOf_58 rfl ?_
      refine aw_iald dX9_wayOf_59 (rr_6 hR) (by first | assumption | (unfold vp_in; decide)) ?_
      refine aw_iadd dX9_wayOf_60 ?_
      refine aw_goto (tgt := 66) dX9_wayOf_61 (by decide) ?_
      exact aw_iret dX9_wayOf_66 rfl ⟨by simp [q_way, *], rfl⟩
  · by_cases e1 : rg σ 13 m = 1
    · refine aw_lswAt 1 (off := 44) (tgt := 67) e1 dX9_wayOf_23 (by decide) (by decide) (by decide) ?_
      refine aw_iload_n dX9_wayOf_67 rfl ?_
      refine aw_if_eq (tgt := 87) dX9_wayOf_68 (by decide) (fun h68 => ?_) (fun h68 => ?_)
      · refine aw_iload dX9_wayOf_87 rfl ?_
        exact aw_iret dX9_wayOf_89 rfl ⟨by simp [q_way, *], rfl⟩
      · refine aw_iload dX9_wayOf_71 rfl ?_
        refine aw_aload_n dX9_wayOf_73 rfl ?_
        refine aw_get dX9_wayOf_74 fg_X9_23_10 hR.1 rfl ?_
        refine aw_iload_n dX9_wayOf_77 rfl ?_
        refine aw_iald dX9_wayOf_78 (rr_6 hR) (by first | assumption | (unfold vp_in; decide)) ?_
        refine aw_iconst (v := 1) dX9_wayOf_79 (by decide) ?_
        refine aw_iadd dX9_wayOf_80 ?_
        refine aw_iconst (v := 2) dX9_wayOf_81 (by decide) ?_
        refine aw_idiv dX9_wayOf_82 (by decide) ?_
        refine aw_iadd dX9_wayOf_83 ?_
        refine aw_goto (tgt := 89) dX9_wayOf_84 (by decide) ?_
        exact aw_iret dX9_wayOf_89 rfl ⟨by simp [q_way, *], rfl⟩
    · refine aw_lsw (off := 67) (tgt := 90) dX9_wayOf_23 (by decide) ?_ (by decide) ?_
      · have n0 := ne_toInt e0
        have n1 := ne_toInt e1
        rw [t_0] at n0
        rw [t_1] at n1
        simp [Op.lookupswitch.offset, n0, n1, Ne.symm n0, Ne.symm n1]
      refine aw_iload dX9_wayOf_90 rfl ?_
      refine aw_aload_n dX9_wayOf_92 rfl ?_
      refine aw_get dX9_wayOf_93 fg_X9_56_10 hR.1 rfl ?_
      refine aw_iload_n dX9_wayOf_96 rfl ?_
      refine aw_iald dX9_wayOf_97 (rr_18 hR) (by first | assumption | (unfold vp_in; decide)) ?_
      refine aw_iadd dX9_wayOf_98 ?_
      refine aw_iconst (v := 1) dX9_wayOf_99 (by decide) ?_
      refine aw_isub dX9_wayOf_100 ?_
      refine aw_aload_n dX9_wayOf_101 rfl ?_
      refine aw_get dX9_wayOf_102 fg_X9_56_10 hR.1 rfl ?_
      refine aw_iload_n dX9_wayOf_105 rfl ?_
      refine aw_iald dX9_wayOf_106 (rr_18 hR) (by first | assumption | (unfold vp_in; decide)) ?_
      refine aw_idiv dX9_wayOf_107 (pace_ne hI hm) ?_
      exact aw_iret dX9_wayOf_108 rfl ⟨by simp [q_way, *], rfl⟩
set_option maxRecDepth 100000 in
set_option maxHeartbeats 4000000 in
theorem r_isAhead {l : Launch} {g : ab_G} {M : ab_M} {a0 : Nat} {ρ : Nat → Nat} {σ : rS} (hR : RR g M a0 ρ σ) {a b : Int32} (ha : vp_in a 10) (hb : vp_in b 10) : AM l g Y_X9_isAhead 0 0 0 0 [.ref a0, .int a, .int b] M (ab_Qi (fun x M' => x = b2i (q_ahead σ a b) ∧ M' = M)) := by
  refine AM.of [some (.ref a0), some (.int a), some (.int b)] (by decide +kernel) (Nat.le_of_ble_eq_true rfl) rfl ?_
  refine aw_aload_n dX9_isAhead_0 rfl ?_
  refine aw_get dX9_isAhead_1 fg_X9_53_10 hR.1 rfl ?_
  refine aw_iload_n dX9_isAhead_4 rfl ?_
  refine aw_iald dX9_isAhead_5 (rr_17 hR) (by first | assumption | (unfold vp_in; decide)) ?_
  refine aw_aload_n dX9_isAhead_6 rfl ?_
  refine aw_get dX9_isAhead_7 fg_X9_53_10 hR.1 rfl ?_
  refine aw_iload_n dX9_isAhead_10 rfl ?_
  refine aw_iald dX9_isAhead_11 (rr_17 hR) (by first | assumption | (unfold vp_in; decide)) ?_
  refine aw_icmp_gt (tgt := 45) dX9_isAhead_12 (by decide) (fun h12 => ?_) (fun h12 => ?_)
  · refine aw_iconst (v := 1) dX9_isAhead_45 (by decide) ?_
    refine aw_goto (tgt := 50) dX9_isAhead_46 (by decide) ?_
    exact aw_zret dX9_isAhead_50 rfl rfl ⟨by rw [b2i]; split <;> simp_all [q_ahead, rg, Int32.le_iff_toInt_le, Int32.lt_iff_toInt_lt] <;> omega, rfl⟩
  · refine aw_aload_n dX9_isAhead_15 rfl ?_
    refine aw_get dX9_isAhead_16 fg_X9_53_10 hR.1 rfl ?_
    refine aw_iload_n dX9_isAhead_19 rfl ?_
    refine aw_iald dX9_isAhead_20 (rr_17 hR) (by first | assumption | (unfold vp_in; decide)) ?_
    refine aw_aload_n dX9_isAhead_21 rfl ?_
    refine aw_get dX9_isAhead_22 fg_X9_53_10 hR.1 rfl ?_
    refine aw_iload_n dX9_isAhead_25 rfl ?_
    refine aw_iald dX9_isAhead_26 (rr_17 hR) (by first | assumption | (unfold vp_in; decide)) ?_
    refine aw_icmp_ne (tgt := 49) dX9_isAhead_27 (by decide) (fun h27 => ?_) (fun h27 => ?_)
    · refine aw_iconst (v := 0) dX9_isAhead_49 (by decide) ?_
      exact aw_zret dX9_isAhead_50 rfl rfl ⟨by rw [b2i]; split <;> simp_all [q_ahead, rg, Int32.le_iff_toInt_le, Int32.lt_iff_toInt_lt] <;> omega, rfl⟩
    · refine aw_aload_n dX9_isAhead_30 rfl ?_
      refine aw_get dX9_isAhead_31 fg_X9_71_10 hR.1 rfl ?_
      refine aw_iload_n dX9_isAhead_34 rfl ?_
      refine aw_iald dX9_isAhead_35 (rr_23 hR) (by first | assumption | (unfold vp_in; decide)) ?_
      refine aw_aload_n dX9_isAhead_36 rfl ?_
      refine aw_get dX9_isAhead_37 fg_X9_71_10 hR.1 rfl ?_
      refine aw_iload_n dX9_isAhead_40 rfl ?_
      refine aw_iald dX9_isAhead_41 (rr_23 hR) (by first | assumption | (unfold vp_in; decide)) ?_
      refine aw_icmp_ge (tgt := 49) dX9_isAhead_42 (by decide) (fun h42 => ?_) (fun h42 => ?_)
      · refine aw_iconst (v := 0) dX9_isAhead_49 (by decide) ?_
        exact aw_zret dX9_isAhead_50 rfl rfl ⟨by rw [b2i]; split <;> simp_all [q_ahead, rg, Int32.le_iff_toInt_le, Int32.lt_iff_toInt_lt] <;> omega, rfl⟩
      · refine aw_iconst (v := 1) dX9_isAhead_45 (by decide) ?_
        refine aw_goto (tgt := 50) dX9_isAhead_46 (by decide) ?_
        exact aw_zret dX9_isAhead_50 rfl rfl ⟨by rw [b2i]; split <;> simp_all [q_ahead, rg, Int32.le_iff_toInt_le, Int32.lt_iff_toInt_lt] <;> omega, rfl⟩
theorem rI_does {σ : rS} {f : Nat → Int32} (hI : rI σ) : rI (ra σ 19 f) := hI
set_option maxRecDepth 100000 in
set_option maxHeartbeats 4000000 in
theorem r_goDown {l : Launch} {g : ab_G} {M : ab_M} {a0 : Nat} {ρ : Nat → Nat} {σ : rS} (hR : RR g M a0 ρ σ) (hI : rI σ) {m : Int32} (hm : mI σ m) : AM l g Y_X9_goDown 1 24 0 0 [.ref a0, .int m] M (ab_Qv (fun M' => RR g M' a0 ρ (f_down σ m) ∧ KR M M')) := by
  refine AM.of [some (.ref a0), some (.int m)] (by decide +kernel) (Nat.le_of_ble_eq_true rfl) rfl ?_
  have hm1 := mI_in hI hm
  have hj1 := rI_J hI hm1
  have hK : KR M M := KR.rf
  refine aw_aload_n dX9_goDown_0 rfl ?_
  refine aw_get dX9_goDown_1 fg_X9_59_10 hR.1 rfl ?_
  refine aw_iload_n dX9_goDown_4 rfl ?_
  refine aw_iconst (v := 2) dX9_goDown_5 (by decide) ?_
  refine rw_iast_19 dX9_goDown_6 (by first | assumption | (unfold vp_in; decide)) hR hK (fun M hR hK => ?_)
  refine aw_aload_n dX9_goDown_7 rfl ?_
  refine aw_get dX9_goDown_8 fg_X9_62_10 hR.1 rfl ?_
  refine aw_iload_n dX9_goDown_11 rfl ?_
  refine aw_aload_n dX9_goDown_12 rfl ?_
  refine aw_iload_n dX9_goDown_13 rfl ?_
  refine aw_aload_n dX9_goDown_14 rfl ?_
  refine aw_get dX9_goDown_15 fg_X9_50_10 hR.1 rfl ?_
  refine aw_iload_n dX9_goDown_18 rfl ?_
  refine aw_iald dX9_goDown_19 (rr_16 hR) (by first | assumption | (unfold vp_in; decide)) ?_
  refine aw_iconst (v := 0) dX9_goDown_20 (by decide) ?_
  refine aw_V3i (kc' := 0) (ks' := 0) dX9_goDown_21 cs_X9_181_10 hR.1 (r_wayOf hR (rI_does hI) hm hj1) rfl (Nat.le_of_ble_eq_true rfl) (fun x21 M21 h21 => ?_)
  obtain ⟨rfl, rfl⟩ := h21
  refine rw_iast_20 dX9_goDown_24 (by first | assumption | (unfold vp_in; decide)) hR hK (fun M hR hK => ?_)
  exact aw_vret dX9_goDown_25 rfl ⟨hR, hK⟩
set_option maxRecDepth 100000 in
set_option maxHeartbeats 4000000 in
theorem r_fountain {l : Launch} {g : ab_G} {M : ab_M} {a0 : Nat} {ρ : Nat → Nat} {σ : rS} (hR : RR g M a0 ρ σ) (hI : rI σ) {w : Int32} : AM l g Y_X9_fountain 1 22 0 0 [.ref a0, .int w] M (ab_Qi (fun x M' => x = (f_fountain σ w).1 ∧ RR g M' a0 ρ (f_fountain σ w).2 ∧ KR M M')) := by
  refine AM.of [some (.ref a0), some (.int w)] (by decide +kernel) (Nat.le_of_ble_eq_true rfl) rfl ?_
  have hK : KR M M := KR.rf
  refine aw_iload_n dX9_fountain_0 rfl ?_
  refine aw_iconst (v := 1) dX9_fountain_1 (by decide) ?_
  refine aw_bipush (v := 20) dX9_fountain_2 (by decide) ?_
  refine aw_S3i (kc' := 0) (ks' := 0) dX9_fountain_4 cs_X9_112 r_in rfl (Nat.le_of_ble_eq_true rfl) (fun x4 M4 h4 => ?_)
  obtain ⟨rfl, rfl⟩ := h4
  refine aw_if_ne (tgt := 12) dX9_fountain_7 (by decide) (fun h7 => ?_) (fun h7 => ?_)
  · replace h7 := b2i_n.mp h7
    refine aw_aload_n dX9_fountain_12 rfl ?_
    refine aw_get dX9_fountain_13 fg_X9_116_10 hR.1 rfl ?_
    refine aw_if_le (tgt := 22) dX9_fountain_16 (by decide) (fun h16 => ?_) (fun h16 => ?_)
    · refine aw_aload_n dX9_fountain_22 rfl ?_
      refine aw_get dX9_fountain_23 fg_X9_119_10 hR.1 rfl ?_
      refine aw_iconst (v := 4) dX9_fountain_26 (by decide) ?_
      refine aw_icmp_ne (tgt := 33) dX9_fountain_27 (by decide) (fun h27 => ?_) (fun h27 => ?_)
      · have hv : vp_in (σ.1 0) 4 := (by rw [vp_in_iff]; have := hI.1; have := ne_toInt h27; rw [t_4] at this; omega)
        refine aw_aload_n dX9_fountain_33 rfl ?_
        refine aw_get dX9_fountain_34 fg_X9_7_10 hR.1 rfl ?_
        refine aw_aload_n dX9_fountain_37 rfl ?_
        refine aw_get dX9_fountain_38 fg_X9_119_10 hR.1 rfl ?_
        refine aw_iload_n dX9_fountain_41 rfl ?_
        refine rw_iast_1 dX9_fountain_42 (by first | assumption | (unfold vp_in; decide)) hR hK (fun M hR hK => ?_)
        refine aw_aload_n dX9_fountain_43 rfl ?_
        refine aw_get dX9_fountain_44 fg_X9_16_10 hR.1 rfl ?_
        refine aw_aload_n dX9_fountain_47 rfl ?_
        refine aw_get dX9_fountain_48 fg_X9_119_10 hR.1 rfl ?_
        refine aw_iconst (v := 1) dX9_fountain_51 (by decide) ?_
        refine rw_zast_3 dX9_fountain_52 (by first | assumption | (unfold vp_in; decide)) hR hK (fun M hR hK => ?_)
        refine aw_aload_n dX9_fountain_53 rfl ?_
        refine aw_dup dX9_fountain_54 rfl ?_
        refine aw_get dX9_fountain_55 fg_X9_119_10 hR.1 rfl ?_
        refine aw_iconst (v := 1) dX9_fountain_58 (by decide) ?_
        refine aw_iadd dX9_fountain_59 ?_
        refine rw_put_0 dX9_fountain_60 fl_X9_119_10 hR hK (fun M hR hK => ?_)
        refine aw_aload_n dX9_fountain_63 rfl ?_
        refine aw_get dX9_fountain_64 fg_X9_119_10 hR.1 rfl ?_
        refine aw_iconst (v := 1) dX9_fountain_67 (by decide) ?_
        refine aw_isub dX9_fountain_68 ?_
        exact aw_iret dX9_fountain_69 rfl (by refine ⟨?_, ?_, hK⟩ <;> simp only [f_fountain, *, ↓reduceIte, Bool.false_eq_true, Bool.and_self, Bool.and_true, Bool.and_false, Bool.false_and, Bool.true_and, Bool.or_true, Bool.true_or, Bool.or_false, Bool.false_or, reduceCtorEq, not_true_eq_false, not_false_eq_true] <;> first | rfl | exact hR)
      · refine aw_bipush (v := -3) dX9_fountain_30 (by decide) ?_
        exact aw_iret dX9_fountain_32 rfl (by refine ⟨?_, ?_, hK⟩ <;> simp only [f_fountain, *, ↓reduceIte, Bool.false_eq_true, Bool.and_self, Bool.and_true, Bool.and_false, Bool.false_and, Bool.true_and, Bool.or_true, Bool.true_or, Bool.or_false, Bool.false_or, reduceCtorEq, not_true_eq_false, not_false_eq_true] <;> first | rfl | exact hR)
    · refine aw_bipush (v := -2) dX9_fountain_19 (by decide) ?_
      exact aw_iret dX9_fountain_21 rfl (by refine ⟨?_, ?_, hK⟩ <;> simp only [f_fountain, *, ↓reduceIte, Bool.false_eq_true, Bool.and_self, Bool.and_true, Bool.and_false, Bool.false_and, Bool.true_and, Bool.or_true, Bool.true_or, Bool.or_false, Bool.false_or, reduceCtorEq, not_true_eq_false, not_false_eq_true] <;> first | rfl | exact hR)
  · replace h7 := b2i_0.mp h7
    refine aw_iconst (v := -1) dX9_fountain_10 (by decide) ?_
    exact aw_iret dX9_fountain_11 rfl (by refine ⟨?_, ?_, hK⟩ <;> simp only [f_fountain, *, ↓reduceIte, Bool.false_eq_true, Bool.and_self, Bool.and_true, Bool.and_false, Bool.false_and, Bool.true_and, Bool.or_true, Bool.true_or, Bool.or_false, Bool.false_or, reduceCtorEq, not_true_eq_false, not_false_eq_true] <;> first | rfl | exact hR)
set_option maxRecDepth 100000 in
set_option maxHeartbeats 4000000 in
theorem r_right {l : Launch} {g : ab_G} {M : ab_M} {a0 : Nat} {ρ : Nat → Nat} {σ : rS} (hR : RR g M a0 ρ σ) (hI : rI σ) {m r : Int32} : AM l g Y_X9_right 2 43 0 0 [.ref a0, .int m, .int r] M (ab_Qi (fun x M' => x = (f_right σ m r).1 ∧ RR g M' a0 ρ (f_right σ m r).2 ∧ KR M M')) := by
  refine AM.of [some (.ref a0), some (.int m), some (.int r), none] (by decide +kernel) (Nat.le_of_ble_eq_true rfl) rfl ?_
  have hK : KR M M := KR.rf
  refine aw_aload_n dX9_right_0 rfl ?_
  refine aw_iload_n dX9_right_1 rfl ?_
  refine aw_V1i (kc' := 0) (ks' := 0) dX9_right_2 cs_X9_146_10 hR.1 (r_isMan hR) rfl (Nat.le_of_ble_eq_true rfl) (fun x2 M2 h2 => ?_)
  obtain ⟨rfl, rfl⟩ := h2
  refine aw_if_eq (tgt := 17) dX9_right_5 (by decide) (fun h5 => ?_) (fun h5 => ?_)
  · replace h5 := b2i_0.mp h5
    refine aw_iconst (v := -1) dX9_right_17 (by decide) ?_
    exact aw_iret dX9_right_18 rfl (by refine ⟨?_, ?_, hK⟩ <;> simp only [f_right, *, ↓reduceIte, Bool.false_eq_true, Bool.and_self, Bool.and_true, Bool.and_false, Bool.false_and, Bool.true_and, Bool.or_true, Bool.true_or, Bool.or_false, Bool.false_or, reduceCtorEq, not_true_eq_false, not_false_eq_true] <;> first | rfl | exact hR)
  · replace h5 := b2i_n.mp h5
    have hm := isM_in hI h5
    refine aw_iload_n dX9_right_8 rfl ?_
    refine aw_iconst (v := 0) dX9_right_9 (by decide) ?_
    refine aw_iconst (v := 3) dX9_right_10 (by decide) ?_
    refine aw_S3i (kc' := 0) (ks' := 0) dX9_right_11 cs_X9_112 r_in rfl (Nat.le_of_ble_eq_true rfl) (fun x11 M11 h11 => ?_)
    obtain ⟨rfl, rfl⟩ := h11
    refine aw_if_ne (tgt := 19) dX9_right_14 (by decide) (fun h14 => ?_) (fun h14 => ?_)
    · replace h14 := b2i_n.mp h14
      refine aw_aload_n dX9_right_19 rfl ?_
      refine aw_get dX9_right_20 fg_X9_53_10 hR.1 rfl ?_
      refine aw_iload_n dX9_right_23 rfl ?_
      refine aw_iald dX9_right_24 (rr_17 hR) (by first | assumption | (unfold vp_in; decide)) ?_
      refine aw_istore_n dX9_right_25 rfl (by decide) ?_
      refine aw_aload_n dX9_right_26 rfl ?_
      refine aw_get dX9_right_27 fg_X9_53_10 hR.1 rfl ?_
      refine aw_iload_n dX9_right_30 rfl ?_
      refine aw_iload_n dX9_right_31 rfl ?_
      refine rw_iast_17 dX9_right_32 (by first | assumption | (unfold vp_in; decide)) hR hK (fun M hR hK => ?_)
      refine aw_iload_n dX9_right_33 rfl ?_
      exact aw_iret dX9_right_34 rfl (by refine ⟨?_, ?_, hK⟩ <;> simp only [f_right, *, ↓reduceIte, Bool.false_eq_true, Bool.and_self, Bool.and_true, Bool.and_false, Bool.false_and, Bool.true_and, Bool.or_true, Bool.true_or, Bool.or_false, Bool.false_or, reduceCtorEq, not_true_eq_false, not_false_eq_true] <;> first | rfl | exact hR)
    · replace h14 := b2i_0.mp h14
      refine aw_iconst (v := -1) dX9_right_17 (by decide) ?_
      exact aw_iret dX9_right_18 rfl (by refine ⟨?_, ?_, hK⟩ <;> simp only [f_right, *, ↓reduceIte, Bool.false_eq_true, Bool.and_self, Bool.and_true, Bool.and_false, Bool.false_and, Bool.true_and, Bool.or_true, Bool.true_or, Bool.or_false, Bool.false_or, reduceCtorEq, not_true_eq_false, not_false_eq_true] <;> first | rfl | exact hR)
set_option maxRecDepth 100000 in
set_option maxHeartbeats 4000000 in
theorem r_pace {l : Launch} {g : ab_G} {M : ab_M} {a0 : Nat} {ρ : Nat → Nat} {σ : rS} (hR : RR g M a0 ρ σ) (hI : rI σ) {m r : Int32} : AM l g Y_X9_pace 2 43 0 0 [.ref a0, .int m, .int r] M (ab_Qi (fun x M' => x = (f_pace σ m r).1 ∧ RR g M' a0 ρ (f_pace σ m r).2 ∧ KR M M')) := by
  refine AM.of [some (.ref a0), some (.int m), some (.int r), none] (by decide +kernel) (Nat.le_of_ble_eq_true rfl) rfl ?_
  have hK : KR M M := KR.rf
  refine aw_aload_n dX9_pace_0 rfl ?_
  refine aw_iload_n dX9_pace_1 rfl ?_
  refine aw_V1i (kc' := 0) (ks' := 0) dX9_pace_2 cs_X9_146_10 hR.1 (r_isMan hR) rfl (Nat.le_of_ble_eq_true rfl) (fun x2 M2 h2 => ?_)
  obtain ⟨rfl, rfl⟩ := h2
  refine aw_if_eq (tgt := 17) dX9_pace_5 (by decide) (fun h5 => ?_) (fun h5 => ?_)
  · replace h5 := b2i_0.mp h5
    refine aw_iconst (v := -1) dX9_pace_17 (by decide) ?_
    exact aw_iret dX9_pace_18 rfl (by refine ⟨?_, ?_, hK⟩ <;> simp only [f_pace, *, ↓reduceIte, Bool.false_eq_true, Bool.and_self, Bool.and_true, Bool.and_false, Bool.false_and, Bool.true_and, Bool.or_true, Bool.true_or, Bool.or_false, Bool.false_or, reduceCtorEq, not_true_eq_false, not_false_eq_true] <;> first | rfl | exact hR)
  · replace h5 := b2i_n.mp h5
    have hm := isM_in hI h5
    refine aw_iload_n dX9_pace_8 rfl ?_
    refine aw_iconst (v := 1) dX9_pace_9 (by decide) ?_
    refine aw_iconst (v := 5) dX9_pace_10 (by decide) ?_
    refine aw_S3i (kc' := 0) (ks' := 0) dX9_pace_11 cs_X9_112 r_in rfl (Nat.le_of_ble_eq_true rfl) (fun x11 M11 h11 => ?_)
    obtain ⟨rfl, rfl⟩ := h11
    refine aw_if_ne (tgt := 19) dX9_pace_14 (by decide) (fun h14 => ?_) (fun h14 => ?_)
    · replace h14 := b2i_n.mp h14
      refine aw_aload_n dX9_pace_19 rfl ?_
      refine aw_get dX9_pace_20 fg_X9_41_10 hR.1 rfl ?_
      refine aw_iload_n dX9_pace_23 rfl ?_
      refine aw_iald dX9_pace_24 (rr_13 hR) (by first | assumption | (unfold vp_in; decide)) ?_
      refine aw_iconst (v := 2) dX9_pace_25 (by decide) ?_
      refine aw_icmp_eq (tgt := 32) dX9_pace_26 (by decide) (fun h26 => ?_) (fun h26 => ?_)
      · refine aw_aload_n dX9_pace_32 rfl ?_
        refine aw_get dX9_pace_33 fg_X9_56_10 hR.1 rfl ?_
        refine aw_iload_n dX9_pace_36 rfl ?_
        refine aw_iald dX9_pace_37 (rr_18 hR) (by first | assumption | (unfold vp_in; decide)) ?_
        refine aw_istore_n dX9_pace_38 rfl (by decide) ?_
        refine aw_aload_n dX9_pace_39 rfl ?_
        refine aw_get dX9_pace_40 fg_X9_56_10 hR.1 rfl ?_
        refine aw_iload_n dX9_pace_43 rfl ?_
        refine aw_iload_n dX9_pace_44 rfl ?_
        refine rw_iast_18 dX9_pace_45 (by first | assumption | (unfold vp_in; decide)) hR hK (fun M hR hK => ?_)
        refine aw_iload_n dX9_pace_46 rfl ?_
        exact aw_iret dX9_pace_47 rfl (by refine ⟨?_, ?_, hK⟩ <;> simp only [f_pace, *, ↓reduceIte, Bool.false_eq_true, Bool.and_self, Bool.and_true, Bool.and_false, Bool.false_and, Bool.true_and, Bool.or_true, Bool.true_or, Bool.or_false, Bool.false_or, reduceCtorEq, not_true_eq_false, not_false_eq_true] <;> first | rfl | exact hR)
      · refine aw_bipush (v := -13) dX9_pace_29 (by decide) ?_
        exact aw_iret dX9_pace_31 rfl (by refine ⟨?_, ?_, hK⟩ <;> simp only [f_pace, *, ↓reduceIte, Bool.false_eq_true, Bool.and_self, Bool.and_true, Bool.and_false, Bool.false_and, Bool.true_and, Bool.or_true, Bool.true_or, Bool.or_false, Bool.false_or, reduceCtorEq, not_true_eq_false, not_false_eq_true] <;> first | rfl | exact hR)
    · replace h14 := b2i_0.mp h14
      refine aw_iconst (v := -1) dX9_pace_17 (by decide) ?_
      exact aw_iret dX9_pace_18 rfl (by refine ⟨?_, ?_, hK⟩ <;> simp only [f_pace, *, ↓reduceIte, Bool.false_eq_true, Bool.and_self, Bool.and_true, Bool.and_false, Bool.false_and, Bool.true_and, Bool.or_true, Bool.true_or, Bool.or_false, Bool.false_or, reduceCtorEq, not_true_eq_false, not_false_eq_true] <;> first | rfl | exact hR)
set_option maxRecDepth 100000 in
set_option maxHeartbeats 4000000 in
theorem r_open {l : Launch} {g : ab_G} {M : ab_M} {a0 : Nat} {ρ : Nat → Nat} {σ : rS} (hR : RR g M a0 ρ σ) (hI : rI σ) {f b : Int32} : AM l g Y_X9_open 2 43 0 0 [.ref a0, .int f, .int b] M (ab_Qi (fun x M' => x = (f_open σ f b).1 ∧ RR g M' a0 ρ (f_open σ f b).2 ∧ KR M M')) := by
  refine AM.of [some (.ref a0), some (.int f), some (.int b), none] (by decide +kernel) (Nat.le_of_ble_eq_true rfl) rfl ?_
  have hK : KR M M := KR.rf
  refine aw_aload_n dX9_open_0 rfl ?_
  refine aw_iload_n dX9_open_1 rfl ?_
  refine aw_V1i (kc' := 0) (ks' := 0) dX9_open_2 cs_X9_136_10 hR.1 (r_isFountain hR) rfl (Nat.le_of_ble_eq_true rfl) (fun x2 M2 h2 => ?_)
  obtain ⟨rfl, rfl⟩ := h2
  refine aw_if_ne (tgt := 10) dX9_open_5 (by decide) (fun h5 => ?_) (fun h5 => ?_)
  · replace h5 := b2i_n.mp h5
    have hm := isF_in hI h5
    refine aw_aload_n dX9_open_10 rfl ?_
    refine aw_get dX9_open_11 fg_X9_16_10 hR.1 rfl ?_
    refine aw_iload_n dX9_open_14 rfl ?_
    refine aw_zald dX9_open_15 (rr_3 hR) (by first | assumption | (unfold vp_in; decide)) ?_
    refine aw_if_eq (tgt := 23) dX9_open_16 (by decide) (fun h16 => ?_) (fun h16 => ?_)
    · refine aw_iconst (v := 0) dX9_open_23 (by decide) ?_
      refine aw_istore_n dX9_open_24 rfl (by decide) ?_
      refine aw_aload_n dX9_open_25 rfl ?_
      refine aw_get dX9_open_26 fg_X9_16_10 hR.1 rfl ?_
      refine aw_iload_n dX9_open_29 rfl ?_
      refine aw_iload_n dX9_open_30 rfl ?_
      refine rw_zast_3 dX9_open_31 (by first | assumption | (unfold vp_in; decide)) hR hK (fun M hR hK => ?_)
      refine aw_iload_n dX9_open_32 rfl ?_
      exact aw_iret dX9_open_33 rfl (by refine ⟨?_, ?_, hK⟩ <;> simp only [f_open, *, ↓reduceIte, Bool.false_eq_true, Bool.and_self, Bool.and_true, Bool.and_false, Bool.false_and, Bool.true_and, Bool.or_true, Bool.true_or, Bool.or_false, Bool.false_or, reduceCtorEq, not_true_eq_false, not_false_eq_true] <;> first | rfl | exact hR)
    · refine aw_iconst (v := 1) dX9_open_19 (by decide) ?_
      refine aw_goto (tgt := 24) dX9_open_20 (by decide) ?_
      refine aw_istore_n dX9_open_24 rfl (by decide) ?_
      refine aw_aload_n dX9_open_25 rfl ?_
      refine aw_get dX9_open_26 fg_X9_16_10 hR.1 rfl ?_
      refine aw_iload_n dX9_open_29 rfl ?_
      refine aw_iload_n dX9_open_30 rfl ?_
      refine rw_zast_3 dX9_open_31 (by first | assumption | (unfold vp_in; decide)) hR hK (fun M hR hK => ?_)
      refine aw_iload_n dX9_open_32 rfl ?_
      exact aw_iret dX9_open_33 rfl (by refine ⟨?_, ?_, hK⟩ <;> simp only [f_open, *, ↓reduceIte, Bool.false_eq_true, Bool.and_self, Bool.and_true, Bool.and_false, Bool.false_and, Bool.true_and, Bool.or_true, Bool.true_or, Bool.or_false, Bool.false_or, reduceCtorEq, not_true_eq_false, not_false_eq_true] <;> first | rfl | exact hR)
  · replace h5 := b2i_0.mp h5
    refine aw_iconst (v := -1) dX9_open_8 (by decide) ?_
    exact aw_iret dX9_open_9 rfl (by refine ⟨?_, ?_, hK⟩ <;> simp only [f_open, *, ↓reduceIte, Bool.false_eq_true, Bool.and_self, Bool.and_true, Bool.and_false, Bool.false_and, Bool.true_and, Bool.or_true, Bool.true_or, Bool.or_false, Bool.false_or, reduceCtorEq, not_true_eq_false, not_false_eq_true] <;> first | rfl | exact hR)
set_option maxRecDepth 100000 in
set_option maxHeartbeats 4000000 in
theorem r_drought {l : Launch} {g : ab_G} {M : ab_M} {a0 : Nat} {ρ : Nat → Nat} {σ : rS} (hR : RR g M a0 ρ σ) (hI : rI σ) {p : Int32} : AM l g Y_X9_drought 1 22 0 0 [.ref a0, .int p] M (ab_Qi (fun x M' => x = (f_drought σ p).1 ∧ RR g M' a0 ρ (f_drought σ p).2 ∧ KR M M')) := by
  refine AM.of [some (.ref a0), some (.int p), none] (by decide +kernel) (Nat.le_of_ble_eq_true rfl) rfl ?_
  have hK : KR M M := KR.rf
  refine aw_iload_n dX9_drought_0 rfl ?_
  refine aw_iconst (v := 0) dX9_drought_1 (by decide) ?_
  refine aw_bipush (v := 100) dX9_drought_2 (by decide) ?_
  refine aw_S3i (kc' := 0) (ks' := 0) dX9_drought_4 cs_X9_112 r_in rfl (Nat.le_of_ble_eq_true rfl) (fun x4 M4 h4 => ?_)
  obtain ⟨rfl, rfl⟩ := h4
  refine aw_if_ne (tgt := 12) dX9_drought_7 (by decide) (fun h7 => ?_) (fun h7 => ?_)
  · replace h7 := b2i_n.mp h7
    refine aw_aload_n dX9_drought_12 rfl ?_
    refine aw_get dX9_drought_13 fg_X9_80_10 hR.1 rfl ?_
    refine aw_istore_n dX9_drought_16 rfl (by decide) ?_
    refine aw_aload_n dX9_drought_17 rfl ?_
    refine aw_iload_n dX9_drought_18 rfl ?_
    refine rw_put_27 dX9_drought_19 fl_X9_80_10 hR hK (fun M hR hK => ?_)
    refine aw_iload_n dX9_drought_22 rfl ?_
    exact aw_iret dX9_drought_23 rfl (by refine ⟨?_, ?_, hK⟩ <;> simp only [f_drought, *, ↓reduceIte, Bool.false_eq_true, Bool.and_self, Bool.and_true, Bool.and_false, Bool.false_and, Bool.true_and, Bool.or_true, Bool.true_or, Bool.or_false, Bool.false_or, reduceCtorEq, not_true_eq_false, not_false_eq_true] <;> first | rfl | exact hR)
  · replace h7 := b2i_0.mp h7
    refine aw_iconst (v := -1) dX9_drought_10 (by decide) ?_
    exact aw_iret dX9_drought_11 rfl (by refine ⟨?_, ?_, hK⟩ <;> simp only [f_drought, *, ↓reduceIte, Bool.false_eq_true, Bool.and_self, Bool.and_true, Bool.and_false, Bool.false_and, Bool.true_and, Bool.or_true, Bool.true_or, Bool.or_false, Bool.false_or, reduceCtorEq, not_true_eq_false, not_false_eq_true] <;> first | rfl | exact hR)
set_option maxRecDepth 100000 in
set_option maxHeartbeats 4000000 in
theorem r_fare {l : Launch} {g : ab_G} {M : ab_M} {a0 : Nat} {ρ : Nat → Nat} {σ : rS} (hR : RR g M a0 ρ σ) (hI : rI σ) {f : Int32} : AM l g Y_X9_fare 1 22 0 0 [.ref a0, .int f] M (ab_Qi (fun x M' => x = f_fare σ f ∧ M' = M)) := by
  refine AM.of [some (.ref a0), some (.int f)] (by decide +kernel) (Nat.le_of_ble_eq_true rfl) rfl ?_
  refine aw_iload_n dX9_fare_0 rfl ?_
  refine aw_iconst (v := 0) dX9_fare_1 (by decide) ?_
  refine aw_bipush (v := 9) dX9_fare_2 (by decide) ?_
  refine aw_S3i (kc' := 0) (ks' := 0) dX9_fare_4 cs_X9_112 r_in rfl (Nat.le_of_ble_eq_true rfl) (fun x4 M4 h4 => ?_)
  obtain ⟨rfl, rfl⟩ := h4
  refine aw_if_eq (tgt := 19) dX9_fare_7 (by decide) (fun h7 => ?_) (fun h7 => ?_)
  · replace h7 := b2i_0.mp h7
    refine aw_iconst (v := -1) dX9_fare_19 (by decide) ?_
    exact aw_iret dX9_fare_20 rfl ⟨by first | (simp only [f_fare, *, ↓reduceIte, Bool.false_eq_true, Bool.and_self, Bool.and_true, Bool.and_false, Bool.false_and, Bool.true_and, Bool.or_true, Bool.true_or, Bool.or_false, Bool.false_or, reduceCtorEq, not_true_eq_false, not_false_eq_true]; done) | (subst_vars; simp_all [f_fare, rg]; done), rfl⟩
  · replace h7 := b2i_n.mp h7
    have hf := in_10 h7
    refine aw_aload_n dX9_fare_10 rfl ?_
    refine aw_get dX9_fare_11 fg_X9_91_10 hR.1 rfl ?_
    refine aw_iload_n dX9_fare_14 rfl ?_
    refine aw_iald dX9_fare_15 (rr_33 hR) (by first | assumption | (unfold vp_in; decide)) ?_
    refine aw_goto (tgt := 20) dX9_fare_16 (by decide) ?_
    exact aw_iret dX9_fare_20 rfl ⟨by first | (simp only [f_fare, *, ↓reduceIte, Bool.false_eq_true, Bool.and_self, Bool.and_true, Bool.and_false, Bool.false_and, Bool.true_and, Bool.or_true, Bool.true_or, Bool.or_false, Bool.false_or, reduceCtorEq, not_true_eq_false, not_false_eq_true]; done) | (subst_vars; simp_all [f_fare, rg]; done), rfl⟩
set_option maxRecDepth 100000 in
set_option maxHeartbeats 4000000 in
theorem r_given {l : Launch} {g : ab_G} {M : ab_M} {a0 : Nat} {ρ : Nat → Nat} {σ : rS} (hR : RR g M a0 ρ σ) (hI : rI σ) {m : Int32} : AM l g Y_X9_given 2 43 0 0 [.ref a0, .int m] M (ab_Qi (fun x M' => x = f_given σ m ∧ M' = M)) := by
  refine AM.of [some (.ref a0), some (.int m)] (by decide +kernel) (Nat.le_of_ble_eq_true rfl) rfl ?_
  refine aw_aload_n dX9_given_0 rfl ?_
  refine aw_iload_n dX9_given_1 rfl ?_
  refine aw_V1i (kc' := 0) (ks' := 0) dX9_given_2 cs_X9_146_10 hR.1 (r_isMan hR) rfl (Nat.le_of_ble_eq_true rfl) (fun x2 M2 h2 => ?_)
  obtain ⟨rfl, rfl⟩ := h2
  refine aw_if_eq (tgt := 17) dX9_given_5 (by decide) (fun h5 => ?_) (fun h5 => ?_)
  · replace h5 := b2i_0.mp h5
    refine aw_iconst (v := -1) dX9_given_17 (by decide) ?_
    exact aw_iret dX9_given_18 rfl ⟨by first | (simp only [f_given, *, ↓reduceIte, Bool.false_eq_true, Bool.and_self, Bool.and_true, Bool.and_false, Bool.false_and, Bool.true_and, Bool.or_true, Bool.true_or, Bool.or_false, Bool.false_or, reduceCtorEq, not_true_eq_false, not_false_eq_true]; done) | (subst_vars; simp_all [f_given, rg]; done), rfl⟩
  · replace h5 := b2i_n.mp h5
    have hm := isM_in hI h5
    refine aw_aload_n dX9_given_8 rfl ?_
    refine aw_get dX9_given_9 fg_X9_109_10 hR.1 rfl ?_
    refine aw_iload_n dX9_given_12 rfl ?_
    refine aw_iald dX9_given_13 (rr_40 hR) (by first | assumption | (unfold vp_in; decide)) ?_
    refine aw_goto (tgt := 18) dX9_given_14 (by decide) ?_
    exact aw_iret dX9_given_18 rfl ⟨by first | (simp only [f_given, *, ↓reduceIte, Bool.false_eq_true, Bool.and_self, Bool.and_true, Bool.and_false, Bool.false_and, Bool.true_and, Bool.or_true, Bool.true_or, Bool.or_false, Bool.false_or, reduceCtorEq, not_true_eq_false, not_false_eq_true]; done) | (subst_vars; simp_all [f_given, rg]; done), rfl⟩
set_option maxRecDepth 100000 in
set_option maxHeartbeats 4000000 in
theorem r_sum {l : Launch} {g : ab_G} {M : ab_M} {a0 : Nat} {ρ : Nat → Nat} {σ : rS} (hR : RR g M a0 ρ σ) (hI : rI σ) {w : Int32} : AM l g Y_X9_sum 1 22 0 0 [.ref a0, .int w] M (ab_Ql (fun x M' => x = f_sum σ w ∧ M' = M)) := by
  refine AM.of [some (.ref a0), some (.int w)] (by decide +kernel) (Nat.le_of_ble_eq_true rfl) rfl ?_
  refine aw_iload_n dX9_sum_0 rfl ?_
  refine aw_iconst (v := 0) dX9_sum_1 (by decide) ?_
  refine aw_bipush (v := 7) dX9_sum_2 (by decide) ?_
  refine aw_S3i (kc' := 0) (ks' := 0) dX9_sum_4 cs_X9_112 r_in rfl (Nat.le_of_ble_eq_true rfl) (fun x4 M4 h4 => ?_)
  obtain ⟨rfl, rfl⟩ := h4
  refine aw_if_ne (tgt := 16) dX9_sum_7 (by decide) (fun h7 => ?_) (fun h7 => ?_)
  · replace h7 := b2i_n.mp h7
    refine aw_iload_n dX9_sum_16 rfl ?_
    refine aw_bipush (v := 7) dX9_sum_17 (by decide) ?_
    refine aw_icmp_ne (tgt := 30) dX9_sum_19 (by decide) (fun h19 => ?_) (fun h19 => ?_)
    · have hw := in_7 h7 h19
      refine aw_aload_n dX9_sum_30 rfl ?_
      refine aw_get dX9_sum_31 fg_X9_84_10 hR.1 rfl ?_
      refine aw_iload_n dX9_sum_34 rfl ?_
      refine aw_lald dX9_sum_35 (rr_29 hR) (by first | assumption | (unfold vp_in; decide)) ?_
      exact aw_lret dX9_sum_36 rfl ⟨by first | (simp only [f_sum, *, ↓reduceIte, Bool.false_eq_true, Bool.and_self, Bool.and_true, Bool.and_false, Bool.false_and, Bool.true_and, Bool.or_true, Bool.true_or, Bool.or_false, Bool.false_or, reduceCtorEq, not_true_eq_false, not_false_eq_true]; done) | (subst_vars; simp_all [f_sum, rg]; done), rfl⟩
    · refine aw_aload_n dX9_sum_22 rfl ?_
      refine aw_get dX9_sum_23 fg_X9_178_10 hR.1 rfl ?_
      refine aw_i2l dX9_sum_26 ?_
      refine aw_goto (tgt := 36) dX9_sum_27 (by decide) ?_
      exact aw_lret dX9_sum_36 rfl ⟨by first | (simp only [f_sum, *, ↓reduceIte, Bool.false_eq_true, Bool.and_self, Bool.and_true, Bool.and_false, Bool.false_and, Bool.true_and, Bool.or_true, Bool.true_or, Bool.or_false, Bool.false_or, reduceCtorEq, not_true_eq_false, not_false_eq_true]; done) | (subst_vars; simp_all [f_sum, rg]; done), rfl⟩
  · replace h7 := b2i_0.mp h7
    refine aw_ldc2 dX9_sum_10 tw_1063 ?_
    refine aw_goto (tgt := 36) dX9_sum_13 (by decide) ?_
    exact aw_lret dX9_sum_36 rfl ⟨by first | (simp only [f_sum, *, ↓reduceIte, Bool.false_eq_true, Bool.and_self, Bool.and_true, Bool.and_false, Bool.false_and, Bool.true_and, Bool.or_true, Bool.true_or, Bool.or_false, Bool.false_or, reduceCtorEq, not_true_eq_false, not_false_eq_true]; done) | (subst_vars; simp_all [f_sum, rg]; done), rfl⟩
theorem sw_out3 {w : Int32} (h0 : ¬ w = 0) (h1 : ¬ w = 1) (h2 : ¬ w = 2) (h3 : ¬ w = 3) : w.toInt < 0 ∨ 3 < w.toInt := by
  have := ne_toInt h0
  have := ne_toInt h1
  have := ne_toInt h2
  have := ne_toInt h3
  simp only [show (0 : Int32).toInt = 0 by decide, show (1 : Int32).toInt = 1 by decide, show (2 : Int32).toInt = 2 by decide, show (3 : Int32).toInt = 3 by decide] at *
  omega
set_option maxRecDepth 100000 in
set_option maxHeartbeats 4000000 in
theorem r_water {l : Launch} {g : ab_G} {M : ab_M} {a0 : Nat} {ρ : Nat → Nat} {σ : rS} (hR : RR g M a0 ρ σ) (hI : rI σ) {i w : Int32} : AM l g Y_X9_water 2 43 0 0 [.ref a0, .int i, .int w] M (ab_Qi (fun x M' => x = f_water σ i w ∧ M' = M)) := by
  refine AM.of [some (.ref a0), some (.int i), some (.int w)] (by decide +kernel) (Nat.le_of_ble_eq_true rfl) rfl ?_
  refine aw_iload_n dX9_water_0 rfl ?_
  by_cases e0 : w = 0
  · refine aw_swAt 0 (off := 31) (tgt := 32) e0 dX9_water_1 (by decide) (by decide) (by decide) (by decide) ?_
    refine aw_aload_n dX9_water_32 rfl ?_
    refine aw_iload_n dX9_water_33 rfl ?_
    refine aw_V1i (kc' := 0) (ks' := 0) dX9_water_34 cs_X9_136_10 hR.1 (r_isFountain hR) rfl (Nat.le_of_ble_eq_true rfl) (fun x34 M34 h34 => ?_)
    obtain ⟨rfl, rfl⟩ := h34
    refine aw_if_eq (tgt := 49) dX9_water_37 (by decide) (fun h37 => ?_) (fun h37 => ?_)
    · replace h37 := b2i_0.mp h37
      refine aw_iconst (v := -1) dX9_water_49 (by decide) ?_
      exact aw_iret dX9_water_50 rfl ⟨by first | (simp only [f_water, *, ↓reduceIte, Bool.false_eq_true, Bool.and_self, Bool.and_true, Bool.and_false, Bool.false_and, Bool.true_and, Bool.or_true, Bool.true_or, Bool.or_false, Bool.false_or, reduceCtorEq, not_true_eq_false, not_false_eq_true]; done) | (subst_vars; simp_all [f_water, rg]; done), rfl⟩
    · replace h37 := b2i_n.mp h37
      have hm := isF_in hI h37
      refine aw_aload_n dX9_water_40 rfl ?_
      refine aw_get dX9_water_41 fg_X9_13_10 hR.1 rfl ?_
      refine aw_iload_n dX9_water_44 rfl ?_
      refine aw_iald dX9_water_45 (rr_2 hR) (by first | assumption | (unfold vp_in; decide)) ?_
      refine aw_goto (tgt := 50) dX9_water_46 (by decide) ?_
      exact aw_iret dX9_water_50 rfl ⟨by first | (simp only [f_water, *, ↓reduceIte, Bool.false_eq_true, Bool.and_self, Bool.and_true, Bool.and_false, Bool.false_and, Bool.true_and, Bool.or_true, Bool.true_or, Bool.or_false, Bool.false_or, reduceCtorEq, not_true_eq_false, not_false_eq_true]; done) | (subst_vars; simp_all [f_water, rg]; done), rfl⟩
  · by_cases e1 : w = 1
    · refine aw_swAt 1 (off := 50) (tgt := 51) e1 dX9_water_1 (by decide) (by decide) (by decide) (by decide) ?_
      refine aw_aload_n dX9_water_51 rfl ?_
      refine aw_iload_n dX9_water_52 rfl ?_
      refine aw_V1i (kc' := 0) (ks' := 0) dX9_water_53 cs_X9_129_10 hR.1 (r_isJar hR) rfl (Nat.le_of_ble_eq_true rfl) (fun x53 M53 h53 => ?_)
      obtain ⟨rfl, rfl⟩ := h53
      refine aw_if_eq (tgt := 68) dX9_water_56 (by decide) (fun h56 => ?_) (fun h56 => ?_)
      · replace h56 := b2i_0.mp h56
        refine aw_iconst (v := -1) dX9_water_68 (by decide) ?_
        exact aw_iret dX9_water_69 rfl ⟨by first | (simp only [f_water, *, ↓reduceIte, Bool.false_eq_true, Bool.and_self, Bool.and_true, Bool.and_false, Bool.false_and, Bool.true_and, Bool.or_true, Bool.true_or, Bool.or_false, Bool.false_or, reduceCtorEq, not_true_eq_false, not_false_eq_true]; done) | (subst_vars; simp_all [f_water, rg]; done), rfl⟩
      · replace h56 := b2i_n.mp h56
        have hm := isJ_in hI h56
        refine aw_aload_n dX9_water_59 rfl ?_
        refine aw_get dX9_water_60 fg_X9_32_10 hR.1 rfl ?_
        refine aw_iload_n dX9_water_63 rfl ?_
        refine aw_iald dX9_water_64 (rr_9 hR) (by first | assumption | (unfold vp_in; decide)) ?_
        refine aw_goto (tgt := 69) dX9_water_65 (by decide) ?_
        exact aw_iret dX9_water_69 rfl ⟨by first | (simp only [f_water, *, ↓reduceIte, Bool.false_eq_true, Bool.and_self, Bool.and_true, Bool.and_false, Bool.false_and, Bool.true_and, Bool.or_true, Bool.true_or, Bool.or_false, Bool.false_or, reduceCtorEq, not_true_eq_false, not_false_eq_true]; done) | (subst_vars; simp_all [f_water, rg]; done), rfl⟩
    · by_cases e2 : w = 2
      · refine aw_swAt 2 (off := 69) (tgt := 70) e2 dX9_water_1 (by decide) (by decide) (by decide) (by decide) ?_
        refine aw_aload_n dX9_water_70 rfl ?_
        refine aw_iload_n dX9_water_71 rfl ?_
        refine aw_V1i (kc' := 0) (ks' := 0) dX9_water_72 cs_X9_136_10 hR.1 (r_isFountain hR) rfl (Nat.le_of_ble_eq_true rfl) (fun x72 M72 h72 => ?_)
        obtain ⟨rfl, rfl⟩ := h72
        refine aw_if_eq (tgt := 87) dX9_water_75 (by decide) (fun h75 => ?_) (fun h75 => ?_)
        · replace h75 := b2i_0.mp h75
          refine aw_iconst (v := -1) dX9_water_87 (by decide) ?_
          exact aw_iret dX9_water_88 rfl ⟨by first | (simp only [f_water, *, ↓reduceIte, Bool.false_eq_true, Bool.and_self, Bool.and_true, Bool.and_false, Bool.false_and, Bool.true_and, Bool.or_true, Bool.true_or, Bool.or_false, Bool.false_or, reduceCtorEq, not_true_eq_false, not_false_eq_true]; done) | (subst_vars; simp_all [f_water, rg]; done), rfl⟩
        · replace h75 := b2i_n.mp h75
          have hm := isF_in hI h75
          refine aw_aload_n dX9_water_78 rfl ?_
          refine aw_get dX9_water_79 fg_X9_20_10 hR.1 rfl ?_
          refine aw_iload_n dX9_water_82 rfl ?_
          refine aw_iald dX9_water_83 (rr_4 hR) (by first | assumption | (unfold vp_in; decide)) ?_
          refine aw_goto (tgt := 88) dX9_water_84 (by decide) ?_
          exact aw_iret dX9_water_88 rfl ⟨by first | (simp only [f_water, *, ↓reduceIte, Bool.false_eq_true, Bool.and_self, Bool.and_true, Bool.and_false, Bool.false_and, Bool.true_and, Bool.or_true, Bool.true_or, Bool.or_false, Bool.false_or, reduceCtorEq, not_true_eq_false, not_false_eq_true]; done) | (subst_vars; simp_all [f_water, rg]; done), rfl⟩
      · by_cases e3 : w = 3
        · refine aw_swAt 3 (off := 88) (tgt := 89) e3 dX9_water_1 (by decide) (by decide) (by decide) (by decide) ?_
          refine aw_aload_n dX9_water_89 rfl ?_
          refine aw_iload_n dX9_water_90 rfl ?_
          refine aw_V1i (kc' := 0) (ks' := 0) dX9_water_91 cs_X9_129_10 hR.1 (r_isJar hR) rfl (Nat.le_of_ble_eq_true rfl) (fun x91 M91 h91 => ?_)
          obtain ⟨rfl, rfl⟩ := h91
          refine aw_if_eq (tgt := 106) dX9_water_94 (by decide) (fun h94 => ?_) (fun h94 => ?_)
          · replace h94 := b2i_0.mp h94
            refine aw_iconst (v := -1) dX9_water_106 (by decide) ?_
            exact aw_iret dX9_water_107 rfl ⟨by first | (simp only [f_water, *, ↓reduceIte, Bool.false_eq_true, Bool.and_self, Bool.and_true, Bool.and_false, Bool.false_and, Bool.true_and, Bool.or_true, Bool.true_or, Bool.or_false, Bool.false_or, reduceCtorEq, not_true_eq_false, not_false_eq_true]; done) | (subst_vars; simp_all [f_water, rg]; done), rfl⟩
          · replace h94 := b2i_n.mp h94
            have hm := isJ_in hI h94
            refine aw_aload_n dX9_water_97 rfl ?_
            refine aw_get dX9_water_98 fg_X9_38_10 hR.1 rfl ?_
            refine aw_iload_n dX9_water_101 rfl ?_
            refine aw_iald dX9_water_102 (rr_11 hR) (by first | assumption | (unfold vp_in; decide)) ?_
            refine aw_goto (tgt := 107) dX9_water_103 (by decide) ?_
            exact aw_iret dX9_water_107 rfl ⟨by first | (simp only [f_water, *, ↓reduceIte, Bool.false_eq_true, Bool.and_self, Bool.and_true, Bool.and_false, Bool.false_and, Bool.true_and, Bool.or_true, Bool.true_or, Bool.or_false, Bool.false_or, reduceCtorEq, not_true_eq_false, not_false_eq_true]; done) | (subst_vars; simp_all [f_water, rg]; done), rfl⟩
        · refine aw_swOut (tgt := 108) dX9_water_1 (sw_out3 e0 e1 e2 e3) (by decide) ?_
          refine aw_iconst (v := -1) dX9_water_108 (by decide) ?_
          exact aw_iret dX9_water_109 rfl ⟨by first | (simp only [f_water, *, ↓reduceIte, Bool.false_eq_true, Bool.and_self, Bool.and_true, Bool.and_false, Bool.false_and, Bool.true_and, Bool.or_true, Bool.true_or, Bool.or_false, Bool.false_or, reduceCtorEq, not_true_eq_false, not_false_eq_true]; done) | (subst_vars; simp_all [f_water, rg]; done), rfl⟩
theorem in_aw {x : Int32} (h : vp_in x 8) : vp_in (4 * x) 32 ∧ vp_in (4 * x + 1) 32 ∧ vp_in (4 * x + 2) 32 ∧ vp_in (4 * x + 3) 32 := by
  rw [vp_in_iff] at h
  have e1 : (4 * x).toInt = 4 * x.toInt := by rw [fb_mulI (by rw [t_4]; omega) (by rw [t_4]; omega), t_4]
  have e2 : (4 * x + 1).toInt = 4 * x.toInt + 1 := by rw [fb_addI (by rw [t_1]; omega) (by rw [t_1]; omega), t_1, e1]
  have t2 : (2 : Int32).toInt = 2 := by decide
  have t3 : (3 : Int32).toInt = 3 := by decide
  have e3 : (4 * x + 2).toInt = 4 * x.toInt + 2 := by rw [fb_addI (by rw [t2]; omega) (by rw [t2]; omega), t2, e1]
  have e4 : (4 * x + 3).toInt = 4 * x.toInt + 3 := by rw [fb_addI (by rw [t3]; omega) (by rw [t3]; omega), t3, e1]
  simp only [vp_in_iff, e1, e2, e3, e4]
  omega
