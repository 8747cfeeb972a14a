/-! ===== the reference's methods, 11: type, the constructor ===== -/
def q_byte (w : Int64) (k : Int32) : Int32 := ((w >>> ((8 * k).toInt64 &&& 63)) &&& 255).toInt32
def q_okB (w : Int64) : Nat → Bool
  | 0 => true
  | m + 1 => q_in (q_byte w (nI m)) 32 126 && q_okB w m
def q_typed (w : Int64) : Nat → rS → rS
  | 0, σ => σ
  | m + 1, σ => q_typed w m (rs (rp σ 30 (σ.1 31) (q_byte w (nI m))) 31 (σ.1 31 + 1))
def f_type (σ : rS) (w : Int64) (n : Int32) : Int32 × rS := if q_in n 1 8 = true then (if q_okB w n.toNatClampNeg = true then (if σ.1 31 + n ≤ 50 then ((q_typed w n.toNatClampNeg σ).1 31, q_typed w n.toNatClampNeg σ) else (-3, σ)) else (-1, σ)) else (-1, σ)
theorem ii_m1 (i : Nat) : nI i + Int32.ofInt (-1) = nI i - 1 := by
  rw [show Int32.ofInt (-1) = -(1 : Int32) by decide, Int32.sub_eq_add_neg]
theorem neg_1 : nI 0 - 1 < 0 := by decide
theorem ty_room {σ : rS} {N : Nat} (hI : rI σ) (hN : N ≤ 8) (h : σ.1 31 + nI N ≤ 50) : (σ.1 31).toNatClampNeg + N ≤ 50 := by
  obtain ⟨h1, h2⟩ := rI_T hI
  rw [h1, nI_add, show (50 : Int32) = nI 50 from rfl, nI_le_iff (by omega) (by omega)] at h
  exact h
set_option maxRecDepth 100000 in
set_option maxHeartbeats 4000000 in
theorem rt_type {l : Launch} {g : ab_G} {Mb : ab_M} {a0 : Nat} {ρ : Nat → Nat} {σ : rS} (hI : rI σ) {w : Int64} {N : Nat} (hN8 : N ≤ 8) (h7 : q_in (nI N) 1 8 = true) (hR : RR g Mb a0 ρ σ) : AW l g ab_X0 (ab_Z g (ab_Qi (fun x M' => x = (f_type σ w (nI N)).1 ∧ RR g M' a0 ρ (f_type σ w (nI N)).2 ∧ KR Mb M'))) Y_X9_type 1 22 0 0 17 [some (.ref a0), some (.long w), none, some (.int (nI N)), some (.int (nI N - 1))] [] Mb := by
  have hNc : (nI N).toNatClampNeg = N := nI_cl (by omega)
  have fin : ∀ (m t : Nat) (τ : rS) (M1 : ab_M), m ≤ N → t + m ≤ 50 → τ.1 31 = nI t → q_typed w m τ = q_typed w N σ → RR g M1 a0 ρ τ → KR Mb M1 → (f_type σ w (nI N) = ((q_typed w N σ).1 31, q_typed w N σ)) → AW l g ab_X0 (ab_Z g (ab_Qi (fun x M' => x = (f_type σ w (nI N)).1 ∧ RR g M' a0 ρ (f_type σ w (nI N)).2 ∧ KR Mb M'))) Y_X9_type 1 22 0 0 71 [some (.ref a0), some (.long w), none, some (.int (nI N)), some (.int (nI m - 1))] [] M1 := by
    intro m
    induction m with
    | zero =>
      intro t τ M1 hm ht h31 hq hR hK hf
      rw [hf, ← hq]
      refine aw_iload dX9_type_71 rfl ?_
      refine aw_if_lt (tgt := 113) dX9_type_73 (by decide) (fun h73 => ?_) (fun h73 => absurd neg_1 h73)
      refine aw_aload_n dX9_type_113 rfl ?_
      refine aw_get dX9_type_114 fg_X9_151_10 hR.1 rfl ?_
      exact aw_iret dX9_type_117 rfl ⟨rfl, hR, hK⟩
    | succ m ih =>
      intro t τ M1 hm ht h31 hq hR hK hf
      rw [nI_pred]
      have hi : vp_in (τ.1 31) 50 := by rw [h31]; exact vp_in_nI (by omega) (by omega)
      refine aw_iload dX9_type_71 rfl ?_
      refine aw_if_lt (tgt := 113) dX9_type_73 (by decide) (fun h73 => absurd h73 (nI_pos (by omega))) (fun h73 => ?_)
      refine aw_aload_n dX9_type_76 rfl ?_
      refine aw_get dX9_type_77 fg_X9_88_10 hR.1 rfl ?_
      refine aw_aload_n dX9_type_80 rfl ?_
      refine aw_get dX9_type_81 fg_X9_151_10 hR.1 rfl ?_
      refine aw_lload_n dX9_type_84 rfl ?_
      refine aw_bipush (v := 8) dX9_type_85 (by decide) ?_
      refine aw_iload dX9_type_87 rfl ?_
      refine aw_imul dX9_type_89 ?_
      refine aw_lshr dX9_type_90 ?_
      refine aw_ldc2 dX9_type_91 tw_987 ?_
      refine aw_land dX9_type_94 ?_
      refine aw_l2i dX9_type_95 ?_
      refine rw_iast_30 dX9_type_96 (by first | assumption | (unfold vp_in; decide)) hR hK (fun M hR hK => ?_)
      refine aw_aload_n dX9_type_97 rfl ?_
      refine aw_dup dX9_type_98 rfl ?_
      refine aw_get dX9_type_99 fg_X9_151_10 hR.1 rfl ?_
      refine aw_iconst (v := 1) dX9_type_102 (by decide) ?_
      refine aw_iadd dX9_type_103 ?_
      refine rw_put_31 dX9_type_104 fl_X9_151_10 hR hK (fun M hR hK => ?_)
      refine aw_iinc dX9_type_107 rfl (ii_m1 m) rfl (by decide) ?_
      refine aw_goto (tgt := 71) dX9_type_110 (by decide) ?_
      exact ih (t + 1) _ _ (by omega) (by omega) (by show τ.1 31 + 1 = _; rw [h31]; exact nI_1 t) hq hR hK hf
  have chk : ∀ (m : Nat) (M1 : ab_M), m ≤ N → (q_okB w m = q_okB w N) → RR g M1 a0 ρ σ → KR Mb M1 → AW l g ab_X0 (ab_Z g (ab_Qi (fun x M' => x = (f_type σ w (nI N)).1 ∧ RR g M' a0 ρ (f_type σ w (nI N)).2 ∧ KR Mb M'))) Y_X9_type 1 22 0 0 17 [some (.ref a0), some (.long w), none, some (.int (nI N)), some (.int (nI m - 1))] [] M1 := by
    intro m
    induction m with
    | zero =>
      intro M1 hm hq hR hK
      have hok : q_okB w N = true := by rw [← hq]; rfl
      refine aw_iload dX9_type_17 rfl ?_
      refine aw_if_lt (tgt := 52) dX9_type_19 (by decide) (fun h19 => ?_) (fun h19 => absurd neg_1 h19)
      refine aw_aload_n dX9_type_52 rfl ?_
      refine aw_get dX9_type_53 fg_X9_151_10 hR.1 rfl ?_
      refine aw_iload_n dX9_type_56 rfl ?_
      refine aw_iadd dX9_type_57 ?_
      refine aw_bipush (v := 50) dX9_type_58 (by decide) ?_
      refine aw_icmp_le (tgt := 66) dX9_type_60 (by decide) (fun h60 => ?_) (fun h60 => ?_)
      · refine aw_iload_n dX9_type_66 rfl ?_
        refine aw_iconst (v := 1) dX9_type_67 (by decide) ?_
        refine aw_isub dX9_type_68 ?_
        refine aw_istore dX9_type_69 rfl (by decide) ?_
        exact fin N (σ.1 31).toNatClampNeg σ _ (Nat.le_refl _) (ty_room hI hN8 h60) (rI_T hI).1 rfl hR hK (by rw [f_type, if_pos h7, hNc, if_pos hok, if_pos h60])
      · refine aw_bipush (v := -3) dX9_type_63 (by decide) ?_
        exact aw_iret dX9_type_65 rfl (by rw [f_type, if_pos h7, hNc, if_pos hok, if_neg h60]; exact ⟨rfl, hR, hK⟩)
    | succ m ih =>
      intro M1 hm hq hR hK
      rw [nI_pred]
      refine aw_iload dX9_type_17 rfl ?_
      refine aw_if_lt (tgt := 52) dX9_type_19 (by decide) (fun h19 => absurd h19 (nI_pos (by omega))) (fun h19 => ?_)
      refine aw_lload_n dX9_type_22 rfl ?_
      refine aw_bipush (v := 8) dX9_type_23 (by decide) ?_
      refine aw_iload dX9_type_25 rfl ?_
      refine aw_imul dX9_type_27 ?_
      refine aw_lshr dX9_type_28 ?_
      refine aw_ldc2 dX9_type_29 tw_987 ?_
      refine aw_land dX9_type_32 ?_
      refine aw_l2i dX9_type_33 ?_
      refine aw_bipush (v := 32) dX9_type_34 (by decide) ?_
      refine aw_bipush (v := 126) dX9_type_36 (by decide) ?_
      refine aw_S3i (kc' := 0) (ks' := 0) dX9_type_38 cs_X9_112 r_in rfl (Nat.le_of_ble_eq_true rfl) (fun x38 M38 h38 => ?_)
      obtain ⟨rfl, e38⟩ := h38
      replace e38 := e38.symm
      subst e38
      refine aw_if_ne (tgt := 46) dX9_type_41 (by decide) (fun h41 => ?_) (fun h41 => ?_)
      · replace h41 := b2i_n.mp h41
        have h41 : q_in (q_byte w (nI m)) 32 126 = true := h41
        refine aw_iinc dX9_type_46 rfl (ii_m1 m) rfl (by decide) ?_
        refine aw_goto (tgt := 17) dX9_type_49 (by decide) ?_
        exact ih _ (by omega) (by rw [← hq, q_okB, h41]; rfl) hR hK
      · replace h41 := b2i_0.mp h41
        have h41 : q_in (q_byte w (nI m)) 32 126 = false := h41
        have hok : ¬ q_okB w N = true := by rw [← hq, q_okB, h41]; simp
        refine aw_iconst (v := -1) dX9_type_44 (by decide) ?_
        exact aw_iret dX9_type_45 rfl (by rw [f_type, if_pos h7, hNc, if_neg hok]; exact ⟨rfl, hR, hK⟩)
  exact chk N Mb (Nat.le_refl _) rfl hR KR.rf
set_option maxRecDepth 100000 in
set_option maxHeartbeats 4000000 in
theorem r_type {l : Launch} {g : ab_G} {Mb : ab_M} {a0 : Nat} {ρ : Nat → Nat} {σ : rS} (hR : RR g Mb a0 ρ σ) (hI : rI σ) {w : Int64} {n : Int32} : AM l g Y_X9_type 1 22 0 0 [.ref a0, .long w, .int n] Mb (ab_Qi (fun x M' => x = (f_type σ w n).1 ∧ RR g M' a0 ρ (f_type σ w n).2 ∧ KR Mb M')) := by
  refine AM.of [some (.ref a0), some (.long w), none, some (.int n), none] (by decide +kernel) (Nat.le_of_ble_eq_true rfl) rfl ?_
  refine aw_iload_n dX9_type_0 rfl ?_
  refine aw_iconst (v := 1) dX9_type_1 (by decide) ?_
  refine aw_bipush (v := 8) dX9_type_2 (by decide) ?_
  refine aw_S3i (kc' := 0) (ks' := 0) dX9_type_4 cs_X9_112 r_in rfl (Nat.le_of_ble_eq_true rfl) (fun x4 M4 h4 => ?_)
  obtain ⟨rfl, e4⟩ := h4
  replace e4 := e4.symm
  subst e4
  refine aw_if_ne (tgt := 12) dX9_type_7 (by decide) (fun h7 => ?_) (fun h7 => ?_)
  · replace h7 := b2i_n.mp h7
    obtain ⟨N, hN8, rfl⟩ := in_nat (b := 8) h7 (by decide) (by decide) (by decide)
    refine aw_iload_n dX9_type_12 rfl ?_
    refine aw_iconst (v := 1) dX9_type_13 (by decide) ?_
    refine aw_isub dX9_type_14 ?_
    refine aw_istore dX9_type_15 rfl (by decide) ?_
    exact rt_type hI hN8 h7 hR
  · replace h7 := b2i_0.mp h7
    refine aw_iconst (v := -1) dX9_type_10 (by decide) ?_
    exact aw_iret dX9_type_11 rfl (by rw [f_type, if_neg (by rw [h7]; decide)]; exact ⟨rfl, hR, KR.rf⟩)
def cR (M : ab_M) (ρ : Nat → Nat) (ks : List (Nat × va_E)) : Prop := ∀ q ∈ ks, M (ρ q.1) = some ((21, q.1), q.2)
theorem cR_new {M : ab_M} {ρ : Nat → Nat} {ks : List (Nat × va_E)} {a k : Nat} {e : va_E} (h : cR M ρ ks) (ha : M a = none) (hk : ks.all (fun q => !(q.1 == k)) = true) : cR (ab_set M a (21, k) e) (va_up ρ k a) ((k, e) :: ks) := by
  intro q hq
  rcases List.mem_cons.mp hq with rfl | hq
  · rw [va_up_self]
    exact ab_set_self
  · have h1 := List.all_eq_true.mp hk q hq
    have h2 : q.1 ≠ k := by simpa using h1
    rw [va_up_ne _ _ h2]
    exact ab_set_new ha (h q hq)
theorem cR_put {M : ab_M} {ρ : Nat → Nat} {ks : List (Nat × va_E)} {a : Nat} {e0 e : va_E} (h : cR M ρ ks) (ha : M a = some ((20, 0), e0)) : cR (ab_set M a (20, 0) e) ρ ks := by
  intro q hq
  exact ab_set_tag ha (h q hq) (by intro h2; cases h2)
theorem KR_new {M M1 : ab_M} {a : Nat} {t : Nat × Nat} {e : va_E} (h : KR M M1) (ha : M1 a = none) : KR M (ab_set M1 a t e) := fun b t2 e2 h1 h2 => ab_set_new ha (h b t2 e2 h1 h2)
section CI
variable {l : Launch} {g : ab_G} {X : State → Array Value → Prop} {Z : List Frame → Array Value → State → Room → State → Prop} {y : ab_Y} {F Lw kc ks : Nat} {pc : Nat} {L : List (Option Value)} {st : List Value} {M Mb : ab_M} {a0 : Nat}
/-- a row is made and laid into its field -/
theorem ci_I {i N : Nat} {n : Int32} {fs : List Value} {ρ : Nat → Nat} {ks9 : List (Nat × va_E)} (k : Nat) (hd : decode y.2.1 pc = .ok (.newarray .int, 2)) (hd2 : decode y.2.1 (pc + 2) = .ok (.putfield i, 3)) (hf : ab_fl y.1.cls i 10 k (.array .int) true) (hin2 : y.1.name = "<init>") (hn : ¬ n < 0) (hN : n.toNatClampNeg = N) (hb : N * componentBytes .int ≤ 536870912) (h0 : M a0 = some ((20, 0), .inr (10, fs))) (hlen : k < fs.length) (hc : cR M ρ ks9) (hk : ks9.all (fun q => !(q.1 == k)) = true) (hK : KR Mb M)
    (kk : ∀ (M' : ab_M) (a : Nat), M' a0 = some ((20, 0), .inr (10, fs.set k (.ref a))) → cR M' (va_up ρ k a) ((k, ab_ai g N (fun _ => 0)) :: ks9) → KR Mb M' → AW l g X Z y F Lw kc ks (pc + 5) L st M') : AW l g X Z y F Lw (kc + 1) (ks + N) pc L (.int n :: .ref a0 :: st) M := by
  refine aw_newaI (21, k) hd rfl tw_120 hn hN hb (fun a ha => ?_)
  have h0' : ab_set M a (21, k) (ab_ai g N (fun _ => 0)) a0 = some ((20, 0), .inr (10, fs)) := ab_set_new ha h0
  refine aw_putF hd2 hf hin2 h0' rfl rfl hlen ?_
  exact kk _ a ab_set_self (cR_put (cR_new hc ha hk) h0') ((KR_new hK ha).put h0' (by decide))
/-- a row is made and laid into its field -/
theorem ci_J {i N : Nat} {n : Int32} {fs : List Value} {ρ : Nat → Nat} {ks9 : List (Nat × va_E)} (k : Nat) (hd : decode y.2.1 pc = .ok (.newarray .long, 2)) (hd2 : decode y.2.1 (pc + 2) = .ok (.putfield i, 3)) (hf : ab_fl y.1.cls i 10 k (.array .long) true) (hin2 : y.1.name = "<init>") (hn : ¬ n < 0) (hN : n.toNatClampNeg = N) (hb : N * componentBytes .long ≤ 536870912) (h0 : M a0 = some ((20, 0), .inr (10, fs))) (hlen : k < fs.length) (hc : cR M ρ ks9) (hk : ks9.all (fun q => !(q.1 == k)) = true) (hK : KR Mb M)
    (kk : ∀ (M' : ab_M) (a : Nat), M' a0 = some ((20, 0), .inr (10, fs.set k (.ref a))) → cR M' (va_up ρ k a) ((k, ab_al g N (fun _ => 0)) :: ks9) → KR Mb M' → AW l g X Z y F Lw kc ks (pc + 5) L st M') : AW l g X Z y F Lw (kc + 1) (ks + N) pc L (.int n :: .ref a0 :: st) M := by
  refine aw_newaJ (21, k) hd rfl tw_183 hn hN hb (fun a ha => ?_)
  have h0' : ab_set M a (21, k) (ab_al g N (fun _ => 0)) a0 = some ((20, 0), .inr (10, fs)) := ab_set_new ha h0
  refine aw_putF hd2 hf hin2 h0' rfl rfl hlen ?_
  exact kk _ a ab_set_self (cR_put (cR_new hc ha hk) h0') ((KR_new hK ha).put h0' (by decide))
/-- a row is made and laid into its field -/
theorem ci_Z {i N : Nat} {n : Int32} {fs : List Value} {ρ : Nat → Nat} {ks9 : List (Nat × va_E)} (k : Nat) (hd : decode y.2.1 pc = .ok (.newarray .boolean, 2)) (hd2 : decode y.2.1 (pc + 2) = .ok (.putfield i, 3)) (hf : ab_fl y.1.cls i 10 k (.array .boolean) true) (hin2 : y.1.name = "<init>") (hn : ¬ n < 0) (hN : n.toNatClampNeg = N) (hb : N * componentBytes .boolean ≤ 536870912) (h0 : M a0 = some ((20, 0), .inr (10, fs))) (hlen : k < fs.length) (hc : cR M ρ ks9) (hk : ks9.all (fun q => !(q.1 == k)) = true) (hK : KR Mb M)
    (kk : ∀ (M' : ab_M) (a : Nat), M' a0 = some ((20, 0), .inr (10, fs.set k (.ref a))) → cR M' (va_up ρ k a) ((k, ab_az g N (fun _ => 0)) :: ks9) → KR Mb M' → AW l g X Z y F Lw kc ks (pc + 5) L st M') : AW l g X Z y F Lw (kc + 1) (ks + N) pc L (.int n :: .ref a0 :: st) M := by
  refine aw_newaZ (21, k) hd rfl tw_919 hn hN hb (fun a ha => ?_)
  have h0' : ab_set M a (21, k) (ab_az g N (fun _ => 0)) a0 = some ((20, 0), .inr (10, fs)) := ab_set_new ha h0
  refine aw_putF hd2 hf hin2 h0' rfl rfl hlen ?_
  exact kk _ a ab_set_self (cR_put (cR_new hc ha hk) h0') ((KR_new hK ha).put h0' (by decide))
end CI
def rD : List Value := [.int 0, .null, .null, .null, .null, .int 0, .null, .null, .null, .null, .null, .null, .int 0, .null, .null, .null, .null, .null, .null, .null, .null, .null, .null, .null, .null, .null, .int 0, .int 0, .int 0, .null, .null, .int 0, .int 0, .null, .null, .int 0, .null, .null, .null, .null, .null]
def s_0 : rS := (upd (fun _ => 0) 27 100, (fun _ _ => 0), (fun _ => 0))
def k_init (i : Nat) (σ : rS) : rS := rp (rp σ 33 (nI i) 1) 40 (nI i) (-4)
def s_1 : rS := lp k_init 0 10 s_0
theorem ci_put27 {l : Launch} {g : ab_G} {X : State → Array Value → Prop} {Z : List Frame → Array Value → State → Room → State → Prop} {y : ab_Y} {F Lw kc ks : Nat} {pc : Nat} {L : List (Option Value)} {st : List Value} {M Mb : ab_M} {a0 i : Nat} {v : Int32} {fs : List Value} {ρ : Nat → Nat} {ks9 : List (Nat × va_E)} (hd2 : decode y.2.1 pc = .ok (.putfield i, 3)) (hf : ab_fl y.1.cls i 10 27 .int false) (h0 : M a0 = some ((20, 0), .inr (10, fs))) (hc : cR M ρ ks9) (hK : KR Mb M) (hlen : 27 < fs.length := by exact Nat.le_of_ble_eq_true rfl)
    (kk : ∀ M' : ab_M, M' a0 = some ((20, 0), .inr (10, fs.set 27 (.int v))) → cR M' ρ ks9 → KR Mb M' → AW l g X Z y F Lw kc ks (pc + 3) L st M') : AW l g X Z y F Lw kc ks pc L (.int v :: .ref a0 :: st) M := by
  refine aw_put hd2 hf h0 rfl rfl hlen ?_
  exact kk _ ab_set_self (cR_put hc h0) (hK.put h0 (by decide))
set_option maxRecDepth 100000 in
set_option maxHeartbeats 1500000 in
theorem r_init {l : Launch} {g : ab_G} {Mb : ab_M} {a0 : Nat} (h0 : Mb a0 = some ((20, 0), .inr (10, rD))) : AM l g Y_X9_init 1 20 32 1043 [.ref a0] Mb (ab_Qv (fun M' => ∃ ρ, RR g M' a0 ρ s_1 ∧ KR Mb M')) := by
  refine AM.of [some (.ref a0), none] (by decide +kernel) (Nat.le_of_ble_eq_true rfl) rfl ?_
  have hK : KR Mb Mb := KR.rf
  have hc : cR Mb (fun _ => 0) [] := fun q hq => by cases hq
  refine aw_aload_n dX9_init_0 rfl ?_
  refine aw_objInit dX9_init_1 tw_794 tw_67 tw_68 (by decide) (Nat.le_of_ble_eq_true rfl) ?_
  show AW _ _ _ _ _ _ _ _ _ 4 _ _ _
  refine aw_aload_n dX9_init_4 rfl ?_
  refine aw_iconst (v := 4) dX9_init_5 (by decide) ?_
  refine ci_I (kc := 31) (ks := 1039) (N := 4) 1 dX9_init_6 dX9_init_8 fl_X9_7_10 rfl (by decide) (by decide) (by decide) h0 (Nat.le_of_ble_eq_true rfl) hc rfl hK (fun M9 a1 h0 hc hK => ?_)
  replace h0 : M9 a0 = some ((20, 0), .inr (10, [.int 0, .ref a1, .null, .null, .null, .int 0, .null, .null, .null, .null, .null, .null, .int 0, .null, .null, .null, .null, .null, .null, .null, .null, .null, .null, .null, .null, .null, .int 0, .int 0, .int 0, .null, .null, .int 0, .int 0, .null, .null, .int 0, .null, .null, .null, .null, .null])) := h0
  show AW _ _ _ _ _ _ _ _ _ 11 _ _ _
  refine aw_aload_n dX9_init_11 rfl ?_
  refine aw_iconst (v := 4) dX9_init_12 (by decide) ?_
  refine ci_I (kc := 30) (ks := 1035) (N := 4) 2 dX9_init_13 dX9_init_15 fl_X9_13_10 rfl (by decide) (by decide) (by decide) h0 (Nat.le_of_ble_eq_true rfl) hc rfl hK (fun M9 a2 h0 hc hK => ?_)
  replace h0 : M9 a0 = some ((20, 0), .inr (10, [.int 0, .ref a1, .ref a2, .null, .null, .int 0, .null, .null, .null, .null, .null, .null, .int 0, .null, .null, .null, .null, .null, .null, .null, .null, .null, .null, .null, .null, .null, .int 0, .int 0, .int 0, .null, .null, .int 0, .int 0, .null, .null, .int 0, .null, .null, .null, .null, .null])) := h0
  show AW _ _ _ _ _ _ _ _ _ 18 _ _ _
  refine aw_aload_n dX9_init_18 rfl ?_
  refine aw_iconst (v := 4) dX9_init_19 (by decide) ?_
  refine ci_Z (kc := 29) (ks := 1031) (N := 4) 3 dX9_init_20 dX9_init_22 fl_X9_16_10 rfl (by decide) (by decide) (by decide) h0 (Nat.le_of_ble_eq_true rfl) hc rfl hK (fun M9 a3 h0 hc hK => ?_)
  replace h0 : M9 a0 = some ((20, 0), .inr (10, [.int 0, .ref a1, .ref a2, .ref a3, .null, .int 0, .null, .null, .null, .null, .null, .null, .int 0, .null, .null, .null, .null, .null, .null, .null, .null, .null, .null, .null, .null, .null, .int 0, .int 0, .int 0, .null, .null, .int 0, .int 0, .null, .null, .int 0, .null, .null, .null, .null, .null])) := h0
  show AW _ _ _ _ _ _ _ _ _ 25 _ _ _
  refine aw_aload_n dX9_init_25 rfl ?_
  refine aw_iconst (v := 4) dX9_init_26 (by decide) ?_
  refine ci_I (kc := 28) (ks := 1027) (N := 4) 4 dX9_init_27 dX9_init_29 fl_X9_20_10 rfl (by decide) (by decide) (by decide) h0 (Nat.le_of_ble_eq_true rfl) hc rfl hK (fun M9 a4 h0 hc hK => ?_)
  replace h0 : M9 a0 = some ((20, 0), .inr (10, [.int 0, .ref a1, .ref a2, .ref a3, .ref a4, .int 0, .null, .null, .null, .null, .null, .null, .int 0, .null, .null, .null, .null, .null, .null, .null, .null, .null, .null, .null, .null, .null, .int 0, .int 0, .int 0, .null, .null, .int 0, .int 0, .null, .null, .int 0, .null, .null, .null, .null, .null])) := h0
  show AW _ _ _ _ _ _ _ _ _ 32 _ _ _
  refine aw_aload_n dX9_init_32 rfl ?_
  refine aw_bipush (v := 8) dX9_init_33 (by decide) ?_
  refine ci_I (kc := 27) (ks := 1019) (N := 8) 6 dX9_init_35 dX9_init_37 fl_X9_23_10 rfl (by decide) (by decide) (by decide) h0 (Nat.le_of_ble_eq_true rfl) hc rfl hK (fun M9 a6 h0 hc hK => ?_)
  replace h0 : M9 a0 = some ((20, 0), .inr (10, [.int 0, .ref a1, .ref a2, .ref a3, .ref a4, .int 0, .ref a6, .null, .null, .null, .null, .null, .int 0, .null, .null, .null, .null, .null, .null, .null, .null, .null, .null, .null, .null, .null, .int 0, .int 0, .int 0, .null, .null, .int 0, .int 0, .null, .null, .int 0, .null, .null, .null, .null, .null])) := h0
  show AW _ _ _ _ _ _ _ _ _ 40 _ _ _
  refine aw_aload_n dX9_init_40 rfl ?_
  refine aw_bipush (v := 8) dX9_init_41 (by decide) ?_
  refine ci_I (kc := 26) (ks := 1011) (N := 8) 7 dX9_init_43 dX9_init_45 fl_X9_26_10 rfl (by decide) (by decide) (by decide) h0 (Nat.le_of_ble_eq_true rfl) hc rfl hK (fun M9 a7 h0 hc hK => ?_)
  replace h0 : M9 a0 = some ((20, 0), .inr (10, [.int 0, .ref a1, .ref a2, .ref a3, .ref a4, .int 0, .ref a6, .ref a7, .null, .null, .null, .null, .int 0, .null, .null, .null, .null, .null, .null, .null, .null, .null, .null, .null, .null, .null, .int 0, .int 0, .int 0, .null, .null, .int 0, .int 0, .null, .null, .int 0, .null, .null, .null, .null, .null])) := h0
  show AW _ _ _ _ _ _ _ _ _ 48 _ _ _
  refine aw_aload_n dX9_init_48 rfl ?_
  refine aw_bipush (v := 32) dX9_init_49 (by decide) ?_
  refine ci_I (kc := 25) (ks := 979) (N := 32) 8 dX9_init_51 dX9_init_53 fl_X9_29_10 rfl (by decide) (by decide) (by decide) h0 (Nat.le_of_ble_eq_true rfl) hc rfl hK (fun M9 a8 h0 hc hK => ?_)
  replace h0 : M9 a0 = some ((20, 0), .inr (10, [.int 0, .ref a1, .ref a2, .ref a3, .ref a4, .int 0, .ref a6, .ref a7, .ref a8, .null, .null, .null, .int 0, .null, .null, .null, .null, .null, .null, .null, .null, .null, .null, .null, .null, .null, .int 0, .int 0, .int 0, .null, .null, .int 0, .int 0, .null, .null, .int 0, .null, .null, .null, .null, .null])) := h0
  show AW _ _ _ _ _ _ _ _ _ 56 _ _ _
  refine aw_aload_n dX9_init_56 rfl ?_
  refine aw_bipush (v := 8) dX9_init_57 (by decide) ?_
  refine ci_I (kc := 24) (ks := 971) (N := 8) 9 dX9_init_59 dX9_init_61 fl_X9_32_10 rfl (by decide) (by decide) (by decide) h0 (Nat.le_of_ble_eq_true rfl) hc rfl hK (fun M9 a9 h0 hc hK => ?_)
  replace h0 : M9 a0 = some ((20, 0), .inr (10, [.int 0, .ref a1, .ref a2, .ref a3, .ref a4, .int 0, .ref a6, .ref a7, .ref a8, .ref a9, .null, .null, .int 0, .null, .null, .null, .null, .null, .null, .null, .null, .null, .null, .null, .null, .null, .int 0, .int 0, .int 0, .null, .null, .int 0, .int 0, .null, .null, .int 0, .null, .null, .null, .null, .null])) := h0
  show AW _ _ _ _ _ _ _ _ _ 64 _ _ _
  refine aw_aload_n dX9_init_64 rfl ?_
  refine aw_bipush (v := 8) dX9_init_65 (by decide) ?_
  refine ci_I (kc := 23) (ks := 963) (N := 8) 10 dX9_init_67 dX9_init_69 fl_X9_35_10 rfl (by decide) (by decide) (by decide) h0 (Nat.le_of_ble_eq_true rfl) hc rfl hK (fun M9 a10 h0 hc hK => ?_)
  replace h0 : M9 a0 = some ((20, 0), .inr (10, [.int 0, .ref a1, .ref a2, .ref a3, .ref a4, .int 0, .ref a6, .ref a7, .ref a8, .ref a9, .ref a10, .null, .int 0, .null, .null, .null, .null, .null, .null, .null, .null, .null, .null, .null, .null, .null, .int 0, .int 0, .int 0, .null, .null, .int 0, .int 0, .null, .null, .int 0, .null, .null, .null, .null, .null])) := h0
  show AW _ _ _ _ _ _ _ _ _ 72 _ _ _
  refine aw_aload_n dX9_init_72 rfl ?_
  refine aw_bipush (v := 8) dX9_init_73 (by decide) ?_
  refine ci_I (kc := 22) (ks := 955) (N := 8) 11 dX9_init_75 dX9_init_77 fl_X9_38_10 rfl (by decide) (by decide) (by decide) h0 (Nat.le_of_ble_eq_true rfl) hc rfl hK (fun M9 a11 h0 hc hK => ?_)
  replace h0 : M9 a0 = some ((20, 0), .inr (10, [.int 0, .ref a1, .ref a2, .ref a3, .ref a4, .int 0, .ref a6, .ref a7, .ref a8, .ref a9, .ref a10, .ref a11, .int 0, .null, .null, .null, .null, .null, .null, .null, .null, .null, .null, .null, .null, .null, .int 0, .int 0, .int 0, .null, .null, .int 0, .int 0, .null, .null, .int 0, .null, .null, .null, .null, .null])) := h0
  show AW _ _ _ _ _ _ _ _ _ 80 _ _ _
  refine aw_aload_n dX9_init_80 rfl ?_
  refine aw_bipush (v := 10) dX9_init_81 (by decide) ?_
  refine ci_I (kc := 21) (ks := 945) (N := 10) 13 dX9_init_83 dX9_init_85 fl_X9_41_10 rfl (by decide) (by decide) (by decide) h0 (Nat.le_of_ble_eq_true rfl) hc rfl hK (fun M9 a13 h0 hc hK => ?_)
  replace h0 : M9 a0 = some ((20, 0), .inr (10, [.int 0, .ref a1, .ref a2, .ref a3, .ref a4, .int 0, .ref a6, .ref a7, .ref a8, .ref a9, .ref a10, .ref a11, .int 0, .ref a13, .null, .null, .null, .null, .null, .null, .null, .null, .null, .null, .null, .null, .int 0, .int 0, .int 0, .null, .null, .int 0, .int 0, .null, .null, .int 0, .null, .null, .null, .null, .null])) := h0
  show AW _ _ _ _ _ _ _ _ _ 88 _ _ _
  refine aw_aload_n dX9_init_88 rfl ?_
  refine aw_bipush (v := 10) dX9_init_89 (by decide) ?_
  refine ci_I (kc := 20) (ks := 935) (N := 10) 14 dX9_init_91 dX9_init_93 fl_X9_44_10 rfl (by decide) (by decide) (by decide) h0 (Nat.le_of_ble_eq_true rfl) hc rfl hK (fun M9 a14 h0 hc hK => ?_)
  replace h0 : M9 a0 = some ((20, 0), .inr (10, [.int 0, .ref a1, .ref a2, .ref a3, .ref a4, .int 0, .ref a6, .ref a7, .ref a8, .ref a9, .ref a10, .ref a11, .int 0, .ref a13, .ref a14, .null, .null, .null, .null, .null, .null, .null, .null, .null, .null, .null, .int 0, .int 0, .int 0, .null, .null, .int 0, .int 0, .null, .null, .int 0, .null, .null, .null, .null, .null])) := h0
  show AW _ _ _ _ _ _ _ _ _ 96 _ _ _
  refine aw_aload_n dX9_init_96 rfl ?_
  refine aw_bipush (v := 10) dX9_init_97 (by decide) ?_
  refine ci_I (kc := 19) (ks := 925) (N := 10) 15 dX9_init_99 dX9_init_101 fl_X9_47_10 rfl (by decide) (by decide) (by decide) h0 (Nat.le_of_ble_eq_true rfl) hc rfl hK (fun M9 a15 h0 hc hK => ?_)
  replace h0 : M9 a0 = some ((20, 0), .inr (10, [.int 0, .ref a1, .ref a2, .ref a3, .ref a4, .int 0, .ref a6, .ref a7, .ref a8, .ref a9, .ref a10, .ref a11, .int 0, .ref a13, .ref a14, .ref a15, .null, .null, .null, .null, .null, .null, .null, .null, .null, .null, .int 0, .int 0, .int 0, .null, .null, .int 0, .int 0, .null, .null, .int 0, .null, .null, .null, .null, .null])) := h0
  show AW _ _ _ _ _ _ _ _ _ 104 _ _ _
  refine aw_aload_n dX9_init_104 rfl ?_
  refine aw_bipush (v := 10) dX9_init_105 (by decide) ?_
  refine ci_I (kc := 18) (ks := 915) (N := 10) 16 dX9_init_107 dX9_init_109 fl_X9_50_10 rfl (by decide) (by decide) (by decide) h0 (Nat.le_of_ble_eq_true rfl) hc rfl hK (fun M9 a16 h0 hc hK => ?_)
  replace h0 : M9 a0 = some ((20, 0), .inr (10, [.int 0, .ref a1, .ref a2, .ref a3, .ref a4, .int 0, .ref a6, .ref a7, .ref a8, .ref a9, .ref a10, .ref a11, .int 0, .ref a13, .ref a14, .ref a15, .ref a16, .null, .null, .null, .null, .null, .null, .null, .null, .null, .int 0, .int 0, .int 0, .null, .null, .int 0, .int 0, .null, .null, .int 0, .null, .null, .null, .null, .null])) := h0
  show AW _ _ _ _ _ _ _ _ _ 112 _ _ _
  refine aw_aload_n dX9_init_112 rfl ?_
  refine aw_bipush (v := 10) dX9_init_113 (by decide) ?_
  refine ci_I (kc := 17) (ks := 905) (N := 10) 17 dX9_init_115 dX9_init_117 fl_X9_53_10 rfl (by decide) (by decide) (by decide) h0 (Nat.le_of_ble_eq_true rfl) hc rfl hK (fun M9 a17 h0 hc hK => ?_)
  replace h0 : M9 a0 = some ((20, 0), .inr (10, [.int 0, .ref a1, .ref a2, .ref a3, .ref a4, .int 0, .ref a6, .ref a7, .ref a8, .ref a9, .ref a10, .ref a11, .int 0, .ref a13, .ref a14, .ref a15, .ref a16, .ref a17, .null, .null, .null, .null, .null, .null, .null, .null, .int 0, .int 0, .int 0, .null, .null, .int 0, .int 0, .null, .null, .int 0, .null, .null, .null, .null, .null])) := h0
  show AW _ _ _ _ _ _ _ _ _ 120 _ _ _
  refine aw_aload_n dX9_init_120 rfl ?_
  refine aw_bipush (v := 10) dX9_init_121 (by decide) ?_
  refine ci_I (kc := 16) (ks := 895) (N := 10) 18 dX9_init_123 dX9_init_125 fl_X9_56_10 rfl (by decide) (by decide) (by decide) h0 (Nat.le_of_ble_eq_true rfl) hc rfl hK (fun M9 a18 h0 hc hK => ?_)
  replace h0 : M9 a0 = some ((20, 0), .inr (10, [.int 0, .ref a1, .ref a2, .ref a3, .ref a4, .int 0, .ref a6, .ref a7, .ref a8, .ref a9, .ref a10, .ref a11, .int 0, .ref a13, .ref a14, .ref a15, .ref a16, .ref a17, .ref a18, .null, .null, .null, .null, .null, .null, .null, .int 0, .int 0, .int 0, .null, .null, .int 0, .int 0, .null, .null, .int 0, .null, .null, .null, .null, .null])) := h0
  show AW _ _ _ _ _ _ _ _ _ 128 _ _ _
  refine aw_aload_n dX9_init_128 rfl ?_
  refine aw_bipush (v := 10) dX9_init_129 (by decide) ?_
  refine ci_I (kc := 15) (ks := 885) (N := 10) 19 dX9_init_131 dX9_init_133 fl_X9_59_10 rfl (by decide) (by decide) (by decide) h0 (Nat.le_of_ble_eq_true rfl) hc rfl hK (fun M9 a19 h0 hc hK => ?_)
  replace h0 : M9 a0 = some ((20, 0), .inr (10, [.int 0, .ref a1, .ref a2, .ref a3, .ref a4, .int 0, .ref a6, .ref a7, .ref a8, .ref a9, .ref a10, .ref a11, .int 0, .ref a13, .ref a14, .ref a15, .ref a16, .ref a17, .ref a18, .ref a19, .null, .null, .null, .null, .null, .null, .int 0, .int 0, .int 0, .null, .null, .int 0, .int 0, .null, .null, .int 0, .null, .null, .null, .null, .null])) := h0
  show AW _ _ _ _ _ _ _ _ _ 136 _ _ _
  refine aw_aload_n dX9_init_136 rfl ?_
  refine aw_bipush (v := 10) dX9_init_137 (by decide) ?_
  refine ci_I (kc := 14) (ks := 875) (N := 10) 20 dX9_init_139 dX9_init_141 fl_X9_62_10 rfl (by decide) (by decide) (by decide) h0 (Nat.le_of_ble_eq_true rfl) hc rfl hK (fun M9 a20 h0 hc hK => ?_)
  replace h0 : M9 a0 = some ((20, 0), .inr (10, [.int 0, .ref a1, .ref a2, .ref a3, .ref a4, .int 0, .ref a6, .ref a7, .ref a8, .ref a9, .ref a10, .ref a11, .int 0, .ref a13, .ref a14, .ref a15, .ref a16, .ref a17, .ref a18, .ref a19, .ref a20, .null, .null, .null, .null, .null, .int 0, .int 0, .int 0, .null, .null, .int 0, .int 0, .null, .null, .int 0, .null, .null, .null, .null, .null])) := h0
  show AW _ _ _ _ _ _ _ _ _ 144 _ _ _
  refine aw_aload_n dX9_init_144 rfl ?_
  refine aw_bipush (v := 10) dX9_init_145 (by decide) ?_
  refine ci_I (kc := 13) (ks := 865) (N := 10) 21 dX9_init_147 dX9_init_149 fl_X9_65_10 rfl (by decide) (by decide) (by decide) h0 (Nat.le_of_ble_eq_true rfl) hc rfl hK (fun M9 a21 h0 hc hK => ?_)
  replace h0 : M9 a0 = some ((20, 0), .inr (10, [.int 0, .ref a1, .ref a2, .ref a3, .ref a4, .int 0, .ref a6, .ref a7, .ref a8, .ref a9, .ref a10, .ref a11, .int 0, .ref a13, .ref a14, .ref a15, .ref a16, .ref a17, .ref a18, .ref a19, .ref a20, .ref a21, .null, .null, .null, .null, .int 0, .int 0, .int 0, .null, .null, .int 0, .int 0, .null, .null, .int 0, .null, .null, .null, .null, .null])) := h0
  show AW _ _ _ _ _ _ _ _ _ 152 _ _ _
  refine aw_aload_n dX9_init_152 rfl ?_
  refine aw_bipush (v := 10) dX9_init_153 (by decide) ?_
  refine ci_I (kc := 12) (ks := 855) (N := 10) 22 dX9_init_155 dX9_init_157 fl_X9_68_10 rfl (by decide) (by decide) (by decide) h0 (Nat.le_of_ble_eq_true rfl) hc rfl hK (fun M9 a22 h0 hc hK => ?_)
  replace h0 : M9 a0 = some ((20, 0), .inr (10, [.int 0, .ref a1, .ref a2, .ref a3, .ref a4, .int 0, .ref a6, .ref a7, .ref a8, .ref a9, .ref a10, .ref a11, .int 0, .ref a13, .ref a14, .ref a15, .ref a16, .ref a17, .ref a18, .ref a19, .ref a20, .ref a21, .ref a22, .null, .null, .null, .int 0, .int 0, .int 0, .null, .null, .int 0, .int 0, .null, .null, .int 0, .null, .null, .null, .null, .null])) := h0
  show AW _ _ _ _ _ _ _ _ _ 160 _ _ _
  refine aw_aload_n dX9_init_160 rfl ?_
  refine aw_bipush (v := 10) dX9_init_161 (by decide) ?_
  refine ci_I (kc := 11) (ks := 845) (N := 10) 23 dX9_init_163 dX9_init_165 fl_X9_71_10 rfl (by decide) (by decide) (by decide) h0 (Nat.le_of_ble_eq_true rfl) hc rfl hK (fun M9 a23 h0 hc hK => ?_)
  replace h0 : M9 a0 = some ((20, 0), .inr (10, [.int 0, .ref a1, .ref a2, .ref a3, .ref a4, .int 0, .ref a6, .ref a7, .ref a8, .ref a9, .ref a10, .ref a11, .int 0, .ref a13, .ref a14, .ref a15, .ref a16, .ref a17, .ref a18, .ref a19, .ref a20, .ref a21, .ref a22, .ref a23, .null, .null, .int 0, .int 0, .int 0, .null, .null, .int 0, .int 0, .null, .null, .int 0, .null, .null, .null, .null, .null])) := h0
  show AW _ _ _ _ _ _ _ _ _ 168 _ _ _
  refine aw_aload_n dX9_init_168 rfl ?_
  refine aw_bipush (v := 10) dX9_init_169 (by decide) ?_
  refine ci_I (kc := 10) (ks := 835) (N := 10) 24 dX9_init_171 dX9_init_173 fl_X9_74_10 rfl (by decide) (by decide) (by decide) h0 (Nat.le_of_ble_eq_true rfl) hc rfl hK (fun M9 a24 h0 hc hK => ?_)
  replace h0 : M9 a0 = some ((20, 0), .inr (10, [.int 0, .ref a1, .ref a2, .ref a3, .ref a4, .int 0, .ref a6, .ref a7, .ref a8, .ref a9, .ref a10, .ref a11, .int 0, .ref a13, .ref a14, .ref a15, .ref a16, .ref a17, .ref a18, .ref a19, .ref a20, .ref a21, .ref a22, .ref a23, .ref a24, .null, .int 0, .int 0, .int 0, .null, .null, .int 0, .int 0, .null, .null, .int 0, .null, .null, .null, .null, .null])) := h0
  show AW _ _ _ _ _ _ _ _ _ 176 _ _ _
  refine aw_aload_n dX9_init_176 rfl ?_
  refine aw_bipush (v := 10) dX9_init_177 (by decide) ?_
  refine ci_I (kc := 9) (ks := 825) (N := 10) 25 dX9_init_179 dX9_init_181 fl_X9_77_10 rfl (by decide) (by decide) (by decide) h0 (Nat.le_of_ble_eq_true rfl) hc rfl hK (fun M9 a25 h0 hc hK => ?_)
  replace h0 : M9 a0 = some ((20, 0), .inr (10, [.int 0, .ref a1, .ref a2, .ref a3, .ref a4, .int 0, .ref a6, .ref a7, .ref a8, .ref a9, .ref a10, .ref a11, .int 0, .ref a13, .ref a14, .ref a15, .ref a16, .ref a17, .ref a18, .ref a19, .ref a20, .ref a21, .ref a22, .ref a23, .ref a24, .ref a25, .int 0, .int 0, .int 0, .null, .null, .int 0, .int 0, .null, .null, .int 0, .null, .null, .null, .null, .null])) := h0
  show AW _ _ _ _ _ _ _ _ _ 184 _ _ _
  refine aw_aload_n dX9_init_184 rfl ?_
  refine aw_bipush (v := 100) dX9_init_185 (by decide) ?_
  refine ci_put27 dX9_init_187 fl_X9_80_10 h0 hc hK (Nat.le_of_ble_eq_true rfl) (fun M9 h0 hc hK => ?_)
  replace h0 : M9 a0 = some ((20, 0), .inr (10, [.int 0, .ref a1, .ref a2, .ref a3, .ref a4, .int 0, .ref a6, .ref a7, .ref a8, .ref a9, .ref a10, .ref a11, .int 0, .ref a13, .ref a14, .ref a15, .ref a16, .ref a17, .ref a18, .ref a19, .ref a20, .ref a21, .ref a22, .ref a23, .ref a24, .ref a25, .int 0, .int 100, .int 0, .null, .null, .int 0, .int 0, .null, .null, .int 0, .null, .null, .null, .null, .null])) := h0
  show AW _ _ _ _ _ _ _ _ _ 190 _ _ _
  refine aw_aload_n dX9_init_190 rfl ?_
  refine aw_bipush (v := 7) dX9_init_191 (by decide) ?_
  refine ci_J (kc := 8) (ks := 818) (N := 7) 29 dX9_init_193 dX9_init_195 fl_X9_84_10 rfl (by decide) (by decide) (by decide) h0 (Nat.le_of_ble_eq_true rfl) hc rfl hK (fun M9 a29 h0 hc hK => ?_)
  replace h0 : M9 a0 = some ((20, 0), .inr (10, [.int 0, .ref a1, .ref a2, .ref a3, .ref a4, .int 0, .ref a6, .ref a7, .ref a8, .ref a9, .ref a10, .ref a11, .int 0, .ref a13, .ref a14, .ref a15, .ref a16, .ref a17, .ref a18, .ref a19, .ref a20, .ref a21, .ref a22, .ref a23, .ref a24, .ref a25, .int 0, .int 100, .int 0, .ref a29, .null, .int 0, .int 0, .null, .null, .int 0, .null, .null, .null, .null, .null])) := h0
  show AW _ _ _ _ _ _ _ _ _ 198 _ _ _
  refine aw_aload_n dX9_init_198 rfl ?_
  refine aw_bipush (v := 50) dX9_init_199 (by decide) ?_
  refine ci_I (kc := 7) (ks := 768) (N := 50) 30 dX9_init_201 dX9_init_203 fl_X9_88_10 rfl (by decide) (by decide) (by decide) h0 (Nat.le_of_ble_eq_true rfl) hc rfl hK (fun M9 a30 h0 hc hK => ?_)
  replace h0 : M9 a0 = some ((20, 0), .inr (10, [.int 0, .ref a1, .ref a2, .ref a3, .ref a4, .int 0, .ref a6, .ref a7, .ref a8, .ref a9, .ref a10, .ref a11, .int 0, .ref a13, .ref a14, .ref a15, .ref a16, .ref a17, .ref a18, .ref a19, .ref a20, .ref a21, .ref a22, .ref a23, .ref a24, .ref a25, .int 0, .int 100, .int 0, .ref a29, .ref a30, .int 0, .int 0, .null, .null, .int 0, .null, .null, .null, .null, .null])) := h0
  show AW _ _ _ _ _ _ _ _ _ 206 _ _ _
  refine aw_aload_n dX9_init_206 rfl ?_
  refine aw_bipush (v := 10) dX9_init_207 (by decide) ?_
  refine ci_I (kc := 6) (ks := 758) (N := 10) 33 dX9_init_209 dX9_init_211 fl_X9_91_10 rfl (by decide) (by decide) (by decide) h0 (Nat.le_of_ble_eq_true rfl) hc rfl hK (fun M9 a33 h0 hc hK => ?_)
  replace h0 : M9 a0 = some ((20, 0), .inr (10, [.int 0, .ref a1, .ref a2, .ref a3, .ref a4, .int 0, .ref a6, .ref a7, .ref a8, .ref a9, .ref a10, .ref a11, .int 0, .ref a13, .ref a14, .ref a15, .ref a16, .ref a17, .ref a18, .ref a19, .ref a20, .ref a21, .ref a22, .ref a23, .ref a24, .ref a25, .int 0, .int 100, .int 0, .ref a29, .ref a30, .int 0, .int 0, .ref a33, .null, .int 0, .null, .null, .null, .null, .null])) := h0
  show AW _ _ _ _ _ _ _ _ _ 214 _ _ _
  refine aw_aload_n dX9_init_214 rfl ?_
  refine aw_bipush (v := 10) dX9_init_215 (by decide) ?_
  refine ci_I (kc := 5) (ks := 748) (N := 10) 34 dX9_init_217 dX9_init_219 fl_X9_94_10 rfl (by decide) (by decide) (by decide) h0 (Nat.le_of_ble_eq_true rfl) hc rfl hK (fun M9 a34 h0 hc hK => ?_)
  replace h0 : M9 a0 = some ((20, 0), .inr (10, [.int 0, .ref a1, .ref a2, .ref a3, .ref a4, .int 0, .ref a6, .ref a7, .ref a8, .ref a9, .ref a10, .ref a11, .int 0, .ref a13, .ref a14, .ref a15, .ref a16, .ref a17, .ref a18, .ref a19, .ref a20, .ref a21, .ref a22, .ref a23, .ref a24, .ref a25, .int 0, .int 100, .int 0, .ref a29, .ref a30, .int 0, .int 0, .ref a33, .ref a34, .int 0, .null, .null, .null, .null, .null])) := h0
  show AW _ _ _ _ _ _ _ _ _ 222 _ _ _
  refine aw_aload_n dX9_init_222 rfl ?_
  refine aw_sipush (v := 600) dX9_init_223 (by decide) ?_
  refine ci_I (kc := 4) (ks := 148) (N := 600) 36 dX9_init_226 dX9_init_228 fl_X9_97_10 rfl (by decide) (by decide) (by decide) h0 (Nat.le_of_ble_eq_true rfl) hc rfl hK (fun M9 a36 h0 hc hK => ?_)
  replace h0 : M9 a0 = some ((20, 0), .inr (10, [.int 0, .ref a1, .ref a2, .ref a3, .ref a4, .int 0, .ref a6, .ref a7, .ref a8, .ref a9, .ref a10, .ref a11, .int 0, .ref a13, .ref a14, .ref a15, .ref a16, .ref a17, .ref a18, .ref a19, .ref a20, .ref a21, .ref a22, .ref a23, .ref a24, .ref a25, .int 0, .int 100, .int 0, .ref a29, .ref a30, .int 0, .int 0, .ref a33, .ref a34, .int 0, .ref a36, .null, .null, .null, .null])) := h0
  show AW _ _ _ _ _ _ _ _ _ 231 _ _ _
  refine aw_aload_n dX9_init_231 rfl ?_
  refine aw_bipush (v := 10) dX9_init_232 (by decide) ?_
  refine ci_Z (kc := 3) (ks := 138) (N := 10) 37 dX9_init_234 dX9_init_236 fl_X9_100_10 rfl (by decide) (by decide) (by decide) h0 (Nat.le_of_ble_eq_true rfl) hc rfl hK (fun M9 a37 h0 hc hK => ?_)
  replace h0 : M9 a0 = some ((20, 0), .inr (10, [.int 0, .ref a1, .ref a2, .ref a3, .ref a4, .int 0, .ref a6, .ref a7, .ref a8, .ref a9, .ref a10, .ref a11, .int 0, .ref a13, .ref a14, .ref a15, .ref a16, .ref a17, .ref a18, .ref a19, .ref a20, .ref a21, .ref a22, .ref a23, .ref a24, .ref a25, .int 0, .int 100, .int 0, .ref a29, .ref a30, .int 0, .int 0, .ref a33, .ref a34, .int 0, .ref a36, .ref a37, .null, .null, .null])) := h0
  show AW _ _ _ _ _ _ _ _ _ 239 _ _ _
  refine aw_aload_n dX9_init_239 rfl ?_
  refine aw_bipush (v := 64) dX9_init_240 (by decide) ?_
  refine ci_I (kc := 2) (ks := 74) (N := 64) 38 dX9_init_242 dX9_init_244 fl_X9_103_10 rfl (by decide) (by decide) (by decide) h0 (Nat.le_of_ble_eq_true rfl) hc rfl hK (fun M9 a38 h0 hc hK => ?_)
  replace h0 : M9 a0 = some ((20, 0), .inr (10, [.int 0, .ref a1, .ref a2, .ref a3, .ref a4, .int 0, .ref a6, .ref a7, .ref a8, .ref a9, .ref a10, .ref a11, .int 0, .ref a13, .ref a14, .ref a15, .ref a16, .ref a17, .ref a18, .ref a19, .ref a20, .ref a21, .ref a22, .ref a23, .ref a24, .ref a25, .int 0, .int 100, .int 0, .ref a29, .ref a30, .int 0, .int 0, .ref a33, .ref a34, .int 0, .ref a36, .ref a37, .ref a38, .null, .null])) := h0
  show AW _ _ _ _ _ _ _ _ _ 247 _ _ _
  refine aw_aload_n dX9_init_247 rfl ?_
  refine aw_bipush (v := 64) dX9_init_248 (by decide) ?_
  refine ci_I (kc := 1) (ks := 10) (N := 64) 39 dX9_init_250 dX9_init_252 fl_X9_106_10 rfl (by decide) (by decide) (by decide) h0 (Nat.le_of_ble_eq_true rfl) hc rfl hK (fun M9 a39 h0 hc hK => ?_)
  replace h0 : M9 a0 = some ((20, 0), .inr (10, [.int 0, .ref a1, .ref a2, .ref a3, .ref a4, .int 0, .ref a6, .ref a7, .ref a8, .ref a9, .ref a10, .ref a11, .int 0, .ref a13, .ref a14, .ref a15, .ref a16, .ref a17, .ref a18, .ref a19, .ref a20, .ref a21, .ref a22, .ref a23, .ref a24, .ref a25, .int 0, .int 100, .int 0, .ref a29, .ref a30, .int 0, .int 0, .ref a33, .ref a34, .int 0, .ref a36, .ref a37, .ref a38, .ref a39, .null])) := h0
  show AW _ _ _ _ _ _ _ _ _ 255 _ _ _
  refine aw_aload_n dX9_init_255 rfl ?_
  refine aw_bipush (v := 10) dX9_init_256 (by decide) ?_
  refine ci_I (kc := 0) (ks := 0) (N := 10) 40 dX9_init_258 dX9_init_260 fl_X9_109_10 rfl (by decide) (by decide) (by decide) h0 (Nat.le_of_ble_eq_true rfl) hc rfl hK (fun M9 a40 h0 hc hK => ?_)
  replace h0 : M9 a0 = some ((20, 0), .inr (10, [.int 0, .ref a1, .ref a2, .ref a3, .ref a4, .int 0, .ref a6, .ref a7, .ref a8, .ref a9, .ref a10, .ref a11, .int 0, .ref a13, .ref a14, .ref a15, .ref a16, .ref a17, .ref a18, .ref a19, .ref a20, .ref a21, .ref a22, .ref a23, .ref a24, .ref a25, .int 0, .int 100, .int 0, .ref a29, .ref a30, .int 0, .int 0, .ref a33, .ref a34, .int 0, .ref a36, .ref a37, .ref a38, .ref a39, .ref a40])) := h0
  have hR : RR g M9 a0 (va_up (va_up (va_up (va_up (va_up (va_up (va_up (va_up (va_up (va_up (va_up (va_up (va_up (va_up (va_up (va_up (va_up (va_up (va_up (va_up (va_up (va_up (va_up (va_up (va_up (va_up (va_up (va_up (va_up (va_up (va_up (va_up (fun _ => 0) 1 a1) 2 a2) 3 a3) 4 a4) 6 a6) 7 a7) 8 a8) 9 a9) 10 a10) 11 a11) 13 a13) 14 a14) 15 a15) 16 a16) 17 a17) 18 a18) 19 a19) 20 a20) 21 a21) 22 a22) 23 a23) 24 a24) 25 a25) 29 a29) 30 a30) 33 a33) 34 a34) 36 a36) 37 a37) 38 a38) 39 a39) 40 a40) s_0 := ⟨h0, hc _ (List.mem_of_getElem? (i := 31) rfl), hc _ (List.mem_of_getElem? (i := 30) rfl), hc _ (List.mem_of_getElem? (i := 29) rfl), hc _ (List.mem_of_getElem? (i := 28) rfl), hc _ (List.mem_of_getElem? (i := 27) rfl), hc _ (List.mem_of_getElem? (i := 26) rfl), hc _ (List.mem_of_getElem? (i := 25) rfl), hc _ (List.mem_of_getElem? (i := 24) rfl), hc _ (List.mem_of_getElem? (i := 23) rfl), hc _ (List.mem_of_getElem? (i := 22) rfl), hc _ (List.mem_of_getElem? (i := 21) rfl), hc _ (List.mem_of_getElem? (i := 20) rfl), hc _ (List.mem_of_getElem? (i := 19) rfl), hc _ (List.mem_of_getElem? (i := 18) rfl), hc _ (List.mem_of_getElem? (i := 17) rfl), hc _ (List.mem_of_getElem? (i := 16) rfl), hc _ (List.mem_of_getElem? (i := 15) rfl), hc _ (List.mem_of_getElem? (i := 14) rfl), hc _ (List.mem_of_getElem? (i := 13) rfl), hc _ (List.mem_of_getElem? (i := 12) rfl), hc _ (List.mem_of_getElem? (i := 11) rfl), hc _ (List.mem_of_getElem? (i := 10) rfl), hc _ (List.mem_of_getElem? (i := 9) rfl), hc _ (List.mem_of_getElem? (i := 8) rfl), hc _ (List.mem_of_getElem? (i := 7) rfl), hc _ (List.mem_of_getElem? (i := 6) rfl), hc _ (List.mem_of_getElem? (i := 5) rfl), hc _ (List.mem_of_getElem? (i := 4) rfl), hc _ (List.mem_of_getElem? (i := 3) rfl), hc _ (List.mem_of_getElem? (i := 2) rfl), hc _ (List.mem_of_getElem? (i := 1) rfl), hc _ (List.mem_of_getElem? (i := 0) rfl)⟩
  generalize (va_up (va_up (va_up (va_up (va_up (va_up (va_up (va_up (va_up (va_up (va_up (va_up (va_up (va_up (va_up (va_up (va_up (va_up (va_up (va_up (va_up (va_up (va_up (va_up (va_up (va_up (va_up (va_up (va_up (va_up (va_up (va_up (fun _ => 0) 1 a1) 2 a2) 3 a3) 4 a4) 6 a6) 7 a7) 8 a8) 9 a9) 10 a10) 11 a11) 13 a13) 14 a14) 15 a15) 16 a16) 17 a17) 18 a18) 19 a19) 20 a20) 21 a21) 22 a22) 23 a23) 24 a24) 25 a25) 29 a29) 30 a30) 33 a33) 34 a34) 36 a36) 37 a37) 38 a38) 39 a39) 40 a40) = ρ at hR
  clear hc h0
  refine aw_iconst (v := 0) dX9_init_263 (by decide) ?_
  refine aw_istore_n dX9_init_264 rfl (by decide) ?_
  refine gl (rP g a0 ρ Mb) (fun i s M9 => AW l g ab_X0 (ab_Z g (ab_Qv (fun M' => ∃ ρ, RR g M' a0 ρ s_1 ∧ KR Mb M'))) Y_X9_init 1 20 0 0 265 [some (.ref a0), some (.int (nI i))] [] M9) k_init (fun _ _ => True) 10 (fun _ _ _ _ => trivial) ?_ 10 0 s_0 M9 rfl trivial ⟨hR, hK⟩ ?_
  · intro i s M9 h1 _ hp9 kk
    obtain ⟨hR, hK⟩ := id hp9
    have hi : vp_in (nI i) 10 := vp_in_nI (by omega) (by omega)
    refine aw_iload_n dX9_init_265 rfl ?_
    refine aw_bipush (v := 10) dX9_init_266 (by decide) ?_
    refine aw_icmp_ge (tgt := 292) dX9_init_268 (by decide) (fun h268 => absurd h268 (by rw [show (10 : Int32) = nI 10 from rfl]; exact nI_ge h1 (by omega))) (fun h268 => ?_)
    refine aw_aload_n dX9_init_271 rfl ?_
    refine aw_get dX9_init_272 fg_X9_91_10 hR.1 rfl ?_
    refine aw_iload_n dX9_init_275 rfl ?_
    refine aw_iconst (v := 1) dX9_init_276 (by decide) ?_
    refine rw_iast_33 dX9_init_277 (by first | assumption | (unfold vp_in; decide)) hR hK (fun M hR hK => ?_)
    refine aw_aload_n dX9_init_278 rfl ?_
    refine aw_get dX9_init_279 fg_X9_109_10 hR.1 rfl ?_
    refine aw_iload_n dX9_init_282 rfl ?_
    refine aw_bipush (v := -4) dX9_init_283 (by decide) ?_
    refine rw_iast_40 dX9_init_285 (by first | assumption | (unfold vp_in; decide)) hR hK (fun M hR hK => ?_)
    refine aw_iinc dX9_init_286 rfl (ii_1 i) rfl (by decide) ?_
    refine aw_goto (tgt := 265) dX9_init_289 (by decide) ?_
    exact kk _ ⟨hR, hK⟩ trivial
  · intro M9 hp9 _
    obtain ⟨hR, hK⟩ := id hp9
    refine aw_iload_n dX9_init_265 rfl ?_
    refine aw_bipush (v := 10) dX9_init_266 (by decide) ?_
    refine aw_icmp_ge (tgt := 292) dX9_init_268 (by decide) (fun h268 => ?_) (fun h268 => absurd (by rw [show (10 : Int32) = nI 10 from rfl]; exact Int32.le_refl _) h268)
    exact aw_vret dX9_init_292 rfl ⟨ρ, hR, hK⟩
