
/-! ===== calls and returns ===== -/
section AB3
variable {l : Launch} {g : ab_G} {X : State → Array Value → Prop} {Z : List Frame → Array Value → State → Room → State → Prop} {y : ab_Y} {F Lw kc ks : Nat} {pc : Nat} {L : List (Option Value)} {st : List Value} {M : ab_M}
theorem ab_call {p : Program} {e : Env} {R : Room} {s : State} {m : MethodId} {args : Array Value} {below : List Frame} {meth : Method} {c : Code} {H : Heap} {locs : List Loc} {cells slots mc ms : Nat} {QQ : State → Prop} {ls : Array Slot} {st0 rest : List Value} {a : Array Value} {Q : Option Value → ab_M → Prop}
    (hr : va_Run p l e R s m args below meth c H locs cells slots mc ms (F0 m pc ls st0) rest (ab_Qc g Q a) (ab_A g)) (hS : va_S (ab_A g) s.heap H locs)
    (kk : ∀ (r : Option Value) (M' : ab_M) (H1 : Heap) (locs1 : List Loc), Q r M' → ab_R g M' H1 → va_S (ab_A g) s.heap H1 locs1 → W p l e R s m args below meth c H1 locs1 (cells + mc) (slots + ms) QQ (F0 m (pc + 3) ls (r.toList ++ rest))) : W p l e R s m args below meth c H locs cells slots QQ (F0 m pc ls st0) := by
  intro T hT X
  obtain ⟨v, st₀, t, T', L, h0, X', hL, e1, e2, ⟨⟨r, M', hv, hp, hb⟩, hz, hk⟩, st⟩ := hr T hT X
  cases hv
  rw [h0] at hz hk
  obtain ⟨t2, a1, b1⟩ := kk v M' T'.heap (locs ++ L) hp (by rw [e1]; exact hb)
    ⟨Nat.le_trans hS.1 (by rw [e1]; exact hz), fun q h1 h2 => by rw [e1, hk q (Nat.lt_of_lt_of_le h1 hS.1) h2]; exact hS.2.1 q h1 h2, fun q hq => by
      rcases List.mem_append.mp hq with h | h
      · exact hS.2.2 q h
      · exact hL q h⟩ T' rfl X'
  exact ⟨t2, st t2 a1, b1⟩
/-- the room that a call needs -/
def ab_fit (F Lw kc ks : Nat) (z : ab_Y) (F' Lw' mc ms kc' ks' : Nat) : Bool := decide (F' + 1 ≤ F) && (decide (8 + (z.2.2.1 + 11) + Lw' ≤ Lw) && (decide (mc + kc' ≤ kc) && decide (ms + ks' ≤ ks)))
theorem ab_fit_of {F Lw kc ks : Nat} {z : ab_Y} {F' Lw' mc ms kc' ks' : Nat} (h : ab_fit F Lw kc ks z F' Lw' mc ms kc' ks' = true) : F' + 1 ≤ F ∧ 8 + (z.2.2.1 + 11) + Lw' ≤ Lw ∧ mc + kc' ≤ kc ∧ ms + ks' ≤ ks := by
  simp only [ab_fit, Bool.and_eq_true, decide_eq_true_eq] at h
  exact h
theorem ab_pre {s : State} {H : Heap} {locs : List Loc} {As : List Value} (hE : ab_E g s s.heap) (hB : ab_B g ≤ s.heap.size) (hS : va_S (ab_A g) s.heap H locs) (hR : ab_R g M H) : ∀ U : State, U.heap = H → s.WarmedH U.vm → va_Pc As (ab_P g M) As.toArray U := by
  intro U hU hW
  exact ⟨rfl, ab_E_warm hW hE (fun a ha hn => by rw [hU]; exact hS.2.1 a ha hn), by rw [hU]; exact Nat.le_trans hB hS.1, by rw [hU]; exact hR⟩
theorem aw_callS {i n : Nat} {z : ab_Y} {F' Lw' mc ms kc' ks' : Nat} {Q : Option Value → ab_M → Prop} {As rest : List Value} (hd : decode y.2.1 pc = .ok (.invokestatic i, 3)) (hw : ab_cS y.1.cls i z n) (hm : AM l g z F' Lw' mc ms As M Q) (hf : ab_fit F Lw kc ks z F' Lw' mc ms kc' ks' = true) (hn : As.length = n) (hst : st = As.reverse ++ rest) (h8 : (rest.map fun v => v.category).sum ≤ 8)
    (kk : ∀ (r : Option Value) (M' : ab_M), Q r M' → AW l g X Z y F Lw kc' ks' (pc + 3) L (r.toList ++ rest) M') : AW l g X Z y F Lw kc ks pc L st M := by
  intro p e R s m args below meth c H locs cells slots ls C c1 c2 hS hR hl
  obtain ⟨hx, hb, hml, hown, hts, -, -, -, -, hF1, hL1, hE, hB⟩ := id C
  obtain ⟨f1, f2, f3, f4⟩ := ab_fit_of hf
  obtain ⟨hpm, w1, w2⟩ := hw
  refine ab_call (va_runS (Ts := ab_T) (nL := y.2.2.1) ⟨hx, hb, hml, hown, hts⟩ hm ⟨⟨rfl, rfl, by show F' + 1 ≤ R.frames; omega, by show 8 + (z.2.2.1 + 11) + Lw' ≤ R.locals; omega, ab_pay hts hpm, List.mem_cons_self, hts _ hpm.2.2.1, hts _ hpm.2.2.2, hpm.1, ab_len hpm.2.1, hts _ w1⟩, hts _ w2⟩ ⟨ab_blind, ab_pre hE hB hS hR⟩ rfl hn hl.1 hst (lv_room h8) hd ⟨by omega, by omega⟩) hS (fun r M' H1 locs1 hq hR1 hS1 => kk r M' hq p e R s m args below meth c H1 locs1 _ _ ls C (by omega) (by omega) hS1 hR1 hl)
theorem aw_callN {i n : Nat} {z : ab_Y} {F' Lw' mc ms kc' ks' : Nat} {Q : Option Value → ab_M → Prop} {As rest : List Value} (hd : decode y.2.1 pc = .ok (.invokestatic i, 3)) (hw : ab_cN y.1.cls i z n) (hm : AM l g z F' Lw' mc ms As M Q) (hf : ab_fit F Lw kc ks z F' Lw' mc ms kc' ks' = true) (hn : As.length = n) (hst : st = As.reverse ++ rest) (h8 : (rest.map fun v => v.category).sum ≤ 8)
    (kk : ∀ (r : Option Value) (M' : ab_M), Q r M' → AW l g X Z y F Lw kc' ks' (pc + 3) L (r.toList ++ rest) M') : AW l g X Z y F Lw kc ks pc L st M := by
  intro p e R s m args below meth c H locs cells slots ls C c1 c2 hS hR hl
  obtain ⟨hx, hb, hml, hown, hts, -, -, -, -, hF1, hL1, hE, hB⟩ := id C
  obtain ⟨f1, f2, f3, f4⟩ := ab_fit_of hf
  obtain ⟨hpm, ⟨host, w1⟩, w2⟩ := hw
  refine ab_call (va_runSN (Ts := ab_T) (nL := y.2.2.1) ⟨hx, hb, hml, hown, hts⟩ hm ⟨⟨⟨rfl, rfl, by show F' + 1 ≤ R.frames; omega, by show 8 + (z.2.2.1 + 11) + Lw' ≤ R.locals; omega, ab_pay hts hpm, List.mem_cons_self⟩, hts _ hpm.2.2.1, hts _ hpm.2.2.2, hpm.1, ab_len hpm.2.1, va_Nw.use rfl (hE.2.1 _ w1)⟩, hts _ w2, trivial⟩ ⟨ab_blind, ab_pre hE hB hS hR⟩ rfl hn hl.1 hst (lv_room h8) hd ⟨by omega, by omega⟩) hS (fun r M' H1 locs1 hq hR1 hS1 => kk r M' hq p e R s m args below meth c H1 locs1 _ _ ls C (by omega) (by omega) hS1 hR1 hl)
theorem aw_callI {i n a : Nat} {z : ab_Y} {F' Lw' mc ms kc' ks' : Nat} {Q : Option Value → ab_M → Prop} {As rest : List Value} (hd : decode y.2.1 pc = .ok (.invokespecial i, 3)) (hw : ab_cI y.1.cls i z n) (hm : AM l g z F' Lw' mc ms (.ref a :: As) M Q) (hf : ab_fit F Lw kc ks z F' Lw' mc ms kc' ks' = true) (hn : As.length = n) (hst : st = As.reverse ++ .ref a :: rest) (h8 : (rest.map fun v => v.category).sum ≤ 8)
    (kk : ∀ (r : Option Value) (M' : ab_M), Q r M' → AW l g X Z y F Lw kc' ks' (pc + 3) L (r.toList ++ rest) M') : AW l g X Z y F Lw kc ks pc L st M := by
  intro p e R s m args below meth c H locs cells slots ls C c1 c2 hS hR hl
  obtain ⟨hx, hb, hml, hown, hts, -, -, -, -, hF1, hL1, hE, hB⟩ := id C
  obtain ⟨f1, f2, f3, f4⟩ := ab_fit_of hf
  obtain ⟨hpm, w1, w2, w3, w4⟩ := hw
  obtain ⟨z1, z2, z3, z4⟩ := z
  have w4 : z4 = none := w4
  subst w4
  refine ab_call (va_runI (Ts := ab_T) (nL := y.2.2.1) ⟨hx, hb, hml, hown, hts⟩ hm ⟨⟨rfl, rfl, by show F' + 1 ≤ R.frames; omega, by show 8 + (z3 + 11) + Lw' ≤ R.locals; dsimp only at f2; omega, ab_pay hts hpm, List.mem_cons_self, hts _ hpm.2.2.1, hts _ hpm.2.2.2, hpm.1, ab_len hpm.2.1, hts _ w1⟩, w3, hts _ w2⟩ ⟨ab_blind, ab_pre hE hB hS hR⟩ rfl hn hl.1 hst (lv_room h8) hd ⟨by omega, by omega⟩) hS (fun r M' H1 locs1 hq hR1 hS1 => kk r M' hq p e R s m args below meth c H1 locs1 _ _ ls C (by omega) (by omega) hS1 hR1 hl)
theorem aw_callJ {i n a : Nat} {z : ab_Y} {F' Lw' mc ms kc' ks' : Nat} {Q : Option Value → ab_M → Prop} {As rest : List Value} (hd : decode y.2.1 pc = .ok (.invokespecial i, 3)) (hw : ab_cJ y.1.cls i z n) (hm : AM l g z F' Lw' mc ms (.ref a :: As) M Q) (hf : ab_fit F Lw kc ks z F' Lw' mc ms kc' ks' = true) (hn : As.length = n) (hst : st = As.reverse ++ .ref a :: rest) (h8 : (rest.map fun v => v.category).sum ≤ 8)
    (kk : ∀ (r : Option Value) (M' : ab_M), Q r M' → AW l g X Z y F Lw kc' ks' (pc + 3) L (r.toList ++ rest) M') : AW l g X Z y F Lw kc ks pc L st M := by
  intro p e R s m args below meth c H locs cells slots ls C c1 c2 hS hR hl
  obtain ⟨hx, hb, hml, hown, hts, -, -, -, -, hF1, hL1, hE, hB⟩ := id C
  obtain ⟨f1, f2, f3, f4⟩ := ab_fit_of hf
  obtain ⟨hpm, ⟨host, w1⟩, w2, w3, w4⟩ := hw
  obtain ⟨z1, z2, z3, z4⟩ := z
  have w4 : z4 = none := w4
  subst w4
  refine ab_call (va_runIN (Ts := ab_T) (nL := y.2.2.1) ⟨hx, hb, hml, hown, hts⟩ hm ⟨⟨⟨rfl, rfl, by show F' + 1 ≤ R.frames; omega, by show 8 + (z3 + 11) + Lw' ≤ R.locals; dsimp only at f2; omega, ab_pay hts hpm, List.mem_cons_self⟩, hts _ hpm.2.2.1, hts _ hpm.2.2.2, hpm.1, ab_len hpm.2.1, va_Nw.use rfl (hE.2.1 _ w1)⟩, w3, hts _ w2⟩ ⟨ab_blind, ab_pre hE hB hS hR⟩ rfl hn hl.1 hst (lv_room h8) hd ⟨by omega, by omega⟩) hS (fun r M' H1 locs1 hq hR1 hS1 => kk r M' hq p e R s m args below meth c H1 locs1 _ _ ls C (by omega) (by omega) hS1 hR1 hl)
theorem aw_callV {i n a ci : Nat} {z : ab_Y} {F' Lw' mc ms kc' ks' : Nat} {t : Nat × Nat} {fs : List Value} {Q : Option Value → ab_M → Prop} {As rest : List Value} (hd : decode y.2.1 pc = .ok (.invokevirtual i, 3)) (hw : ab_cV y.1.cls i ci z n) (hM : M a = some (t, .inr (ci, fs))) (hm : AM l g z F' Lw' mc ms (.ref a :: As) M Q) (hf : ab_fit F Lw kc ks z F' Lw' mc ms kc' ks' = true) (hn : As.length = n) (hst : st = As.reverse ++ .ref a :: rest) (h8 : (rest.map fun v => v.category).sum ≤ 8)
    (kk : ∀ (r : Option Value) (M' : ab_M), Q r M' → AW l g X Z y F Lw kc' ks' (pc + 3) L (r.toList ++ rest) M') : AW l g X Z y F Lw kc ks pc L st M := by
  intro p e R s m args below meth c H locs cells slots ls C c1 c2 hS hR hl
  obtain ⟨hx, hb, hml, hown, hts, -, -, -, -, hF1, hL1, hE, hB⟩ := id C
  obtain ⟨f1, f2, f3, f4⟩ := ab_fit_of hf
  obtain ⟨hpm, C0, T0, N0, hc, h | h⟩ := hw
  · obtain ⟨rfl, w1, w2, w3⟩ := h
    refine ab_call (va_runV (Ts := ab_T) (nL := y.2.2.1) ⟨hx, hb, hml, hown, hts⟩ hm ⟨⟨rfl, rfl, by show F' + 1 ≤ R.frames; omega, by show 8 + (z.2.2.1 + 11) + Lw' ≤ R.locals; omega, ab_pay hts hpm, List.mem_cons_self, hts _ hpm.2.2.1, hts _ hpm.2.2.2, hpm.1, ab_len hpm.2.1, hts _ w1⟩, hts _ w2, hts _ w3⟩ ⟨ab_blind, ab_recv hE hR hM hc, ab_pre hE hB hS hR⟩ rfl hn hl.1 hst (lv_room h8) hd ⟨by omega, by omega⟩) hS (fun r M' H1 locs1 hq hR1 hS1 => kk r M' hq p e R s m args below meth c H1 locs1 _ _ ls C (by omega) (by omega) hS1 hR1 hl)
  · obtain ⟨x, owner, b0, m0, r0, w0, wl, w1, w2, w3, w4, w5, w6⟩ := h
    refine ab_call (va_runU (Ts := ab_T) (nL := y.2.2.1) (owner := owner) (x := x) ⟨hx, hb, hml, hown, hts⟩ hm ⟨⟨rfl, rfl, by show F' + 1 ≤ R.frames; omega, by show 8 + (z.2.2.1 + 11) + Lw' ≤ R.locals; omega, ab_pay hts hpm, List.mem_cons_self⟩, hts _ hpm.2.2.1, hts _ hpm.2.2.2, w0, ab_len wl, hts _ w1, hts _ w2, va_Decl.of (hts _ w3) (hts _ w4), hts _ w5, hts _ w6⟩ ⟨ab_blind, ab_recv hE hR hM hc, ab_pre hE hB hS hR⟩ rfl hn hl.1 hst (lv_room h8) hd ⟨by omega, by omega⟩) hS (fun r M' H1 locs1 hq hR1 hS1 => kk r M' hq p e R s m args below meth c H1 locs1 _ _ ls C (by omega) (by omega) hS1 hR1 hl)
/-! what a method answers: void, int, long, a reference or null -/
abbrev ab_Qv (Q : ab_M → Prop) : Option Value → ab_M → Prop := fun r M' => r = none ∧ Q M'
abbrev ab_Qi (Q : Int32 → ab_M → Prop) : Option Value → ab_M → Prop := fun r M' => ∃ x : Int32, r = some (.int x) ∧ Q x M'
abbrev ab_Ql (Q : Int64 → ab_M → Prop) : Option Value → ab_M → Prop := fun r M' => ∃ x : Int64, r = some (.long x) ∧ Q x M'
abbrev ab_Qr (Q : Nat → ab_M → Prop) : Option Value → ab_M → Prop := fun r M' => ∃ x : Nat, r = some (.ref x) ∧ Q x M'
abbrev ab_Qq (Q : Option Nat → ab_M → Prop) : Option Value → ab_M → Prop := fun r M' => ∃ x : Option Nat, r = some (va_rf x) ∧ Q x M'
theorem ab_wide {p : Program} {e : Env} {R : Room} {s : State} {m : MethodId} {args : Array Value} {below : List Frame} {meth : Method} {c : Code} {H : Heap} {locs : List Loc} {cells slots : Nat} {QQ : State → Prop} {f : JFrame} (c1 : cells + kc ≤ R.cells) (c2 : slots + ks ≤ R.slots) (h : W p l e R s m args below meth c H locs R.cells R.slots QQ f) : W p l e R s m args below meth c H locs cells slots QQ f := W.widen (by omega) (by omega) h
theorem ab_q {s : State} {H : Heap} {locs : List Loc} {args : Array Value} {Q : Option Value → ab_M → Prop} {r : Option Value} (hS : va_S (ab_A g) s.heap H locs) (hR : ab_R g M H) (hq : Q r M) : ∀ t : State, t.heap = H → s.WarmedH t.vm → ab_Qc g Q args s (.returned r) t := by
  intro t ht hW
  exact ⟨⟨r, M, rfl, hq, by rw [ht]; exact hR⟩, hS.F ht⟩
theorem aw_vret {Q : ab_M → Prop} (hd : decode y.2.1 pc = .ok (.return_, 1)) (hr : y.2.2.2 = none) (hq : Q M) : AW l g X (ab_Z g (ab_Qv Q)) y F Lw kc ks pc L [] M := by
  intro p e R s m args below meth c H locs cells slots ls C c1 c2 hS hR hl
  obtain ⟨hx, hb, hml, hown, hts, hlk, hrt, -⟩ := id C
  exact ab_wide c1 c2 (W.vret hx hb (hrt.trans hr) (ab_q hS hR ⟨rfl, hq⟩) hS.2.2 hd hlk)
theorem aw_iret {x : Int32} {Q : Int32 → ab_M → Prop} (hd : decode y.2.1 pc = .ok (.ireturn, 1)) (hr : y.2.2.2 = some .int) (hq : Q x M) : AW l g X (ab_Z g (ab_Qi Q)) y F Lw kc ks pc L [.int x] M := by
  intro p e R s m args below meth c H locs cells slots ls C c1 c2 hS hR hl
  obtain ⟨hx, hb, hml, hown, hts, hlk, hrt, -⟩ := id C
  exact ab_wide c1 c2 (W.iret hx hb (hrt.trans hr) (ab_q hS hR ⟨x, rfl, hq⟩) hS.2.2 hd hlk)
theorem aw_zret {x : Int32} {Q : Int32 → ab_M → Prop} (hd : decode y.2.1 pc = .ok (.ireturn, 1)) (hr : y.2.2.2 = some .boolean) (hn : narrow .boolean (.int x) = .int x) (hq : Q x M) : AW l g X (ab_Z g (ab_Qi Q)) y F Lw kc ks pc L [.int x] M := by
  intro p e R s m args below meth c H locs cells slots ls C c1 c2 hS hR hl
  obtain ⟨hx, hb, hml, hown, hts, hlk, hrt, -⟩ := id C
  exact ab_wide c1 c2 (W.zret hx hb (hrt.trans hr) hn (ab_q hS hR ⟨x, rfl, hq⟩) hS.2.2 hd hlk)
theorem aw_lret {x : Int64} {Q : Int64 → ab_M → Prop} (hd : decode y.2.1 pc = .ok (.lreturn, 1)) (hr : y.2.2.2 = some .long) (hq : Q x M) : AW l g X (ab_Z g (ab_Ql Q)) y F Lw kc ks pc L [.long x] M := by
  intro p e R s m args below meth c H locs cells slots ls C c1 c2 hS hR hl
  obtain ⟨hx, hb, hml, hown, hts, hlk, hrt, -⟩ := id C
  exact ab_wide c1 c2 (W.lret hx hb (hrt.trans hr) (ab_q hS hR ⟨x, rfl, hq⟩) hS.2.2 hd hlk)
theorem aw_rret {x : Nat} {Q : Nat → ab_M → Prop} {rt : FieldType} (hd : decode y.2.1 pc = .ok (.areturn, 1)) (hr : y.2.2.2 = some rt) (hrt2 : (∃ n, rt = .object n) ∨ ∃ t, rt = .array t) (hq : Q x M) : AW l g X (ab_Z g (ab_Qr Q)) y F Lw kc ks pc L [.ref x] M := by
  intro p e R s m args below meth c H locs cells slots ls C c1 c2 hS hR hl
  obtain ⟨hx, hb, hml, hown, hts, hlk, hrt, -⟩ := id C
  exact ab_wide c1 c2 (W.aret hx hb (hrt.trans hr) hrt2 (Or.inr ⟨x, rfl⟩) (ab_q hS hR ⟨x, rfl, hq⟩) hS.2.2 hd hlk)
theorem aw_qret {x : Option Nat} {Q : Option Nat → ab_M → Prop} {rt : FieldType} (hd : decode y.2.1 pc = .ok (.areturn, 1)) (hr : y.2.2.2 = some rt) (hrt2 : (∃ n, rt = .object n) ∨ ∃ t, rt = .array t) (hq : Q x M) : AW l g X (ab_Z g (ab_Qq Q)) y F Lw kc ks pc L [va_rf x] M := by
  intro p e R s m args below meth c H locs cells slots ls C c1 c2 hS hR hl
  obtain ⟨hx, hb, hml, hown, hts, hlk, hrt, -⟩ := id C
  refine ab_wide c1 c2 (W.aret hx hb (hrt.trans hr) hrt2 ?_ (ab_q hS hR ⟨x, rfl, hq⟩) hS.2.2 hd hlk)
  cases x with
  | none => exact Or.inl rfl
  | some a => exact Or.inr ⟨a, rfl⟩

theorem aw_S0v {i : Nat} {z : ab_Y} {F' Lw' mc ms kc' ks' : Nat} {Q : ab_M → Prop} {rest : List Value} (hd : decode y.2.1 pc = .ok (.invokestatic i, 3)) (hw : ab_cS y.1.cls i z 0) (hm : AM l g z F' Lw' mc ms ([]) M (ab_Qv Q)) (hf : ab_fit F Lw kc ks z F' Lw' mc ms kc' ks' = true) (h8 : (rest.map fun v => v.category).sum ≤ 8) (kk : ∀ (M' : ab_M), Q M' → AW l g X Z y F Lw kc' ks' (pc + 3) L (rest) M') : AW l g X Z y F Lw kc ks pc L (rest) M :=
  aw_callS (As := []) (rest := rest) hd hw hm hf rfl rfl h8 (fun r M' h => by
    obtain ⟨rfl, h⟩ := h
    exact kk M' h)
theorem aw_S0i {i : Nat} {z : ab_Y} {F' Lw' mc ms kc' ks' : Nat} {Q : Int32 → ab_M → Prop} {rest : List Value} (hd : decode y.2.1 pc = .ok (.invokestatic i, 3)) (hw : ab_cS y.1.cls i z 0) (hm : AM l g z F' Lw' mc ms ([]) M (ab_Qi Q)) (hf : ab_fit F Lw kc ks z F' Lw' mc ms kc' ks' = true) (h8 : (rest.map fun v => v.category).sum ≤ 8) (kk : ∀ (x : Int32) (M' : ab_M), Q x M' → AW l g X Z y F Lw kc' ks' (pc + 3) L (.int x :: rest) M') : AW l g X Z y F Lw kc ks pc L (rest) M :=
  aw_callS (As := []) (rest := rest) hd hw hm hf rfl rfl h8 (fun r M' h => by
    obtain ⟨x, rfl, h⟩ := h
    exact kk x M' h)
theorem aw_S0l {i : Nat} {z : ab_Y} {F' Lw' mc ms kc' ks' : Nat} {Q : Int64 → ab_M → Prop} {rest : List Value} (hd : decode y.2.1 pc = .ok (.invokestatic i, 3)) (hw : ab_cS y.1.cls i z 0) (hm : AM l g z F' Lw' mc ms ([]) M (ab_Ql Q)) (hf : ab_fit F Lw kc ks z F' Lw' mc ms kc' ks' = true) (h8 : (rest.map fun v => v.category).sum ≤ 8) (kk : ∀ (x : Int64) (M' : ab_M), Q x M' → AW l g X Z y F Lw kc' ks' (pc + 3) L (.long x :: rest) M') : AW l g X Z y F Lw kc ks pc L (rest) M :=
  aw_callS (As := []) (rest := rest) hd hw hm hf rfl rfl h8 (fun r M' h => by
    obtain ⟨x, rfl, h⟩ := h
    exact kk x M' h)
theorem aw_S0r {i : Nat} {z : ab_Y} {F' Lw' mc ms kc' ks' : Nat} {Q : Nat → ab_M → Prop} {rest : List Value} (hd : decode y.2.1 pc = .ok (.invokestatic i, 3)) (hw : ab_cS y.1.cls i z 0) (hm : AM l g z F' Lw' mc ms ([]) M (ab_Qr Q)) (hf : ab_fit F Lw kc ks z F' Lw' mc ms kc' ks' = true) (h8 : (rest.map fun v => v.category).sum ≤ 8) (kk : ∀ (x : Nat) (M' : ab_M), Q x M' → AW l g X Z y F Lw kc' ks' (pc + 3) L (.ref x :: rest) M') : AW l g X Z y F Lw kc ks pc L (rest) M :=
  aw_callS (As := []) (rest := rest) hd hw hm hf rfl rfl h8 (fun r M' h => by
    obtain ⟨x, rfl, h⟩ := h
    exact kk x M' h)
theorem aw_S0q {i : Nat} {z : ab_Y} {F' Lw' mc ms kc' ks' : Nat} {Q : Option Nat → ab_M → Prop} {rest : List Value} (hd : decode y.2.1 pc = .ok (.invokestatic i, 3)) (hw : ab_cS y.1.cls i z 0) (hm : AM l g z F' Lw' mc ms ([]) M (ab_Qq Q)) (hf : ab_fit F Lw kc ks z F' Lw' mc ms kc' ks' = true) (h8 : (rest.map fun v => v.category).sum ≤ 8) (kk : ∀ (x : Option Nat) (M' : ab_M), Q x M' → AW l g X Z y F Lw kc' ks' (pc + 3) L (va_rf x :: rest) M') : AW l g X Z y F Lw kc ks pc L (rest) M :=
  aw_callS (As := []) (rest := rest) hd hw hm hf rfl rfl h8 (fun r M' h => by
    obtain ⟨x, rfl, h⟩ := h
    exact kk x M' h)
theorem aw_S1v {i : Nat} {z : ab_Y} {F' Lw' mc ms kc' ks' : Nat} {Q : ab_M → Prop} {v1 : Value} {rest : List Value} (hd : decode y.2.1 pc = .ok (.invokestatic i, 3)) (hw : ab_cS y.1.cls i z 1) (hm : AM l g z F' Lw' mc ms ([v1]) M (ab_Qv Q)) (hf : ab_fit F Lw kc ks z F' Lw' mc ms kc' ks' = true) (h8 : (rest.map fun v => v.category).sum ≤ 8) (kk : ∀ (M' : ab_M), Q M' → AW l g X Z y F Lw kc' ks' (pc + 3) L (rest) M') : AW l g X Z y F Lw kc ks pc L (v1 :: rest) M :=
  aw_callS (As := [v1]) (rest := rest) hd hw hm hf rfl rfl h8 (fun r M' h => by
    obtain ⟨rfl, h⟩ := h
    exact kk M' h)
theorem aw_S1i {i : Nat} {z : ab_Y} {F' Lw' mc ms kc' ks' : Nat} {Q : Int32 → ab_M → Prop} {v1 : Value} {rest : List Value} (hd : decode y.2.1 pc = .ok (.invokestatic i, 3)) (hw : ab_cS y.1.cls i z 1) (hm : AM l g z F' Lw' mc ms ([v1]) M (ab_Qi Q)) (hf : ab_fit F Lw kc ks z F' Lw' mc ms kc' ks' = true) (h8 : (rest.map fun v => v.category).sum ≤ 8) (kk : ∀ (x : Int32) (M' : ab_M), Q x M' → AW l g X Z y F Lw kc' ks' (pc + 3) L (.int x :: rest) M') : AW l g X Z y F Lw kc ks pc L (v1 :: rest) M :=
  aw_callS (As := [v1]) (rest := rest) hd hw hm hf rfl rfl h8 (fun r M' h => by
    obtain ⟨x, rfl, h⟩ := h
    exact kk x M' h)
theorem aw_S1l {i : Nat} {z : ab_Y} {F' Lw' mc ms kc' ks' : Nat} {Q : Int64 → ab_M → Prop} {v1 : Value} {rest : List Value} (hd : decode y.2.1 pc = .ok (.invokestatic i, 3)) (hw : ab_cS y.1.cls i z 1) (hm : AM l g z F' Lw' mc ms ([v1]) M (ab_Ql Q)) (hf : ab_fit F Lw kc ks z F' Lw' mc ms kc' ks' = true) (h8 : (rest.map fun v => v.category).sum ≤ 8) (kk : ∀ (x : Int64) (M' : ab_M), Q x M' → AW l g X Z y F Lw kc' ks' (pc + 3) L (.long x :: rest) M') : AW l g X Z y F Lw kc ks pc L (v1 :: rest) M :=
  aw_callS (As := [v1]) (rest := rest) hd hw hm hf rfl rfl h8 (fun r M' h => by
    obtain ⟨x, rfl, h⟩ := h
    exact kk x M' h)
theorem aw_S1r {i : Nat} {z : ab_Y} {F' Lw' mc ms kc' ks' : Nat} {Q : Nat → ab_M → Prop} {v1 : Value} {rest : List Value} (hd : decode y.2.1 pc = .ok (.invokestatic i, 3)) (hw : ab_cS y.1.cls i z 1) (hm : AM l g z F' Lw' mc ms ([v1]) M (ab_Qr Q)) (hf : ab_fit F Lw kc ks z F' Lw' mc ms kc' ks' = true) (h8 : (rest.map fun v => v.category).sum ≤ 8) (kk : ∀ (x : Nat) (M' : ab_M), Q x M' → AW l g X Z y F Lw kc' ks' (pc + 3) L (.ref x :: rest) M') : AW l g X Z y F Lw kc ks pc L (v1 :: rest) M :=
  aw_callS (As := [v1]) (rest := rest) hd hw hm hf rfl rfl h8 (fun r M' h => by
    obtain ⟨x, rfl, h⟩ := h
    exact kk x M' h)
theorem aw_S1q {i : Nat} {z : ab_Y} {F' Lw' mc ms kc' ks' : Nat} {Q : Option Nat → ab_M → Prop} {v1 : Value} {rest : List Value} (hd : decode y.2.1 pc = .ok (.invokestatic i, 3)) (hw : ab_cS y.1.cls i z 1) (hm : AM l g z F' Lw' mc ms ([v1]) M (ab_Qq Q)) (hf : ab_fit F Lw kc ks z F' Lw' mc ms kc' ks' = true) (h8 : (rest.map fun v => v.category).sum ≤ 8) (kk : ∀ (x : Option Nat) (M' : ab_M), Q x M' → AW l g X Z y F Lw kc' ks' (pc + 3) L (va_rf x :: rest) M') : AW l g X Z y F Lw kc ks pc L (v1 :: rest) M :=
  aw_callS (As := [v1]) (rest := rest) hd hw hm hf rfl rfl h8 (fun r M' h => by
    obtain ⟨x, rfl, h⟩ := h
    exact kk x M' h)
theorem aw_S2v {i : Nat} {z : ab_Y} {F' Lw' mc ms kc' ks' : Nat} {Q : ab_M → Prop} {v1 v2 : Value} {rest : List Value} (hd : decode y.2.1 pc = .ok (.invokestatic i, 3)) (hw : ab_cS y.1.cls i z 2) (hm : AM l g z F' Lw' mc ms ([v1, v2]) M (ab_Qv Q)) (hf : ab_fit F Lw kc ks z F' Lw' mc ms kc' ks' = true) (h8 : (rest.map fun v => v.category).sum ≤ 8) (kk : ∀ (M' : ab_M), Q M' → AW l g X Z y F Lw kc' ks' (pc + 3) L (rest) M') : AW l g X Z y F Lw kc ks pc L (v2 :: v1 :: rest) M :=
  aw_callS (As := [v1, v2]) (rest := rest) hd hw hm hf rfl rfl h8 (fun r M' h => by
    obtain ⟨rfl, h⟩ := h
    exact kk M' h)
theorem aw_S2i {i : Nat} {z : ab_Y} {F' Lw' mc ms kc' ks' : Nat} {Q : Int32 → ab_M → Prop} {v1 v2 : Value} {rest : List Value} (hd : decode y.2.1 pc = .ok (.invokestatic i, 3)) (hw : ab_cS y.1.cls i z 2) (hm : AM l g z F' Lw' mc ms ([v1, v2]) M (ab_Qi Q)) (hf : ab_fit F Lw kc ks z F' Lw' mc ms kc' ks' = true) (h8 : (rest.map fun v => v.category).sum ≤ 8) (kk : ∀ (x : Int32) (M' : ab_M), Q x M' → AW l g X Z y F Lw kc' ks' (pc + 3) L (.int x :: rest) M') : AW l g X Z y F Lw kc ks pc L (v2 :: v1 :: rest) M :=
  aw_callS (As := [v1, v2]) (rest := rest) hd hw hm hf rfl rfl h8 (fun r M' h => by
    obtain ⟨x, rfl, h⟩ := h
    exact kk x M' h)
theorem aw_S2l {i : Nat} {z : ab_Y} {F' Lw' mc ms kc' ks' : Nat} {Q : Int64 → ab_M → Prop} {v1 v2 : Value} {rest : List Value} (hd : decode y.2.1 pc = .ok (.invokestatic i, 3)) (hw : ab_cS y.1.cls i z 2) (hm : AM l g z F' Lw' mc ms ([v1, v2]) M (ab_Ql Q)) (hf : ab_fit F Lw kc ks z F' Lw' mc ms kc' ks' = true) (h8 : (rest.map fun v => v.category).sum ≤ 8) (kk : ∀ (x : Int64) (M' : ab_M), Q x M' → AW l g X Z y F Lw kc' ks' (pc + 3) L (.long x :: rest) M') : AW l g X Z y F Lw kc ks pc L (v2 :: v1 :: rest) M :=
  aw_callS (As := [v1, v2]) (rest := rest) hd hw hm hf rfl rfl h8 (fun r M' h => by
    obtain ⟨x, rfl, h⟩ := h
    exact kk x M' h)
theorem aw_S2r {i : Nat} {z : ab_Y} {F' Lw' mc ms kc' ks' : Nat} {Q : Nat → ab_M → Prop} {v1 v2 : Value} {rest : List Value} (hd : decode y.2.1 pc = .ok (.invokestatic i, 3)) (hw : ab_cS y.1.cls i z 2) (hm : AM l g z F' Lw' mc ms ([v1, v2]) M (ab_Qr Q)) (hf : ab_fit F Lw kc ks z F' Lw' mc ms kc' ks' = true) (h8 : (rest.map fun v => v.category).sum ≤ 8) (kk : ∀ (x : Nat) (M' : ab_M), Q x M' → AW l g X Z y F Lw kc' ks' (pc + 3) L (.ref x :: rest) M') : AW l g X Z y F Lw kc ks pc L (v2 :: v1 :: rest) M :=
  aw_callS (As := [v1, v2]) (rest := rest) hd hw hm hf rfl rfl h8 (fun r M' h => by
    obtain ⟨x, rfl, h⟩ := h
    exact kk x M' h)
theorem aw_S2q {i : Nat} {z : ab_Y} {F' Lw' mc ms kc' ks' : Nat} {Q : Option Nat → ab_M → Prop} {v1 v2 : Value} {rest : List Value} (hd : decode y.2.1 pc = .ok (.invokestatic i, 3)) (hw : ab_cS y.1.cls i z 2) (hm : AM l g z F' Lw' mc ms ([v1, v2]) M (ab_Qq Q)) (hf : ab_fit F Lw kc ks z F' Lw' mc ms kc' ks' = true) (h8 : (rest.map fun v => v.category).sum ≤ 8) (kk : ∀ (x : Option Nat) (M' : ab_M), Q x M' → AW l g X Z y F Lw kc' ks' (pc + 3) L (va_rf x :: rest) M') : AW l g X Z y F Lw kc ks pc L (v2 :: v1 :: rest) M :=
  aw_callS (As := [v1, v2]) (rest := rest) hd hw hm hf rfl rfl h8 (fun r M' h => by
    obtain ⟨x, rfl, h⟩ := h
    exact kk x M' h)
theorem aw_S3v {i : Nat} {z : ab_Y} {F' Lw' mc ms kc' ks' : Nat} {Q : ab_M → Prop} {v1 v2 v3 : Value} {rest : List Value} (hd : decode y.2.1 pc = .ok (.invokestatic i, 3)) (hw : ab_cS y.1.cls i z 3) (hm : AM l g z F' Lw' mc ms ([v1, v2, v3]) M (ab_Qv Q)) (hf : ab_fit F Lw kc ks z F' Lw' mc ms kc' ks' = true) (h8 : (rest.map fun v => v.category).sum ≤ 8) (kk : ∀ (M' : ab_M), Q M' → AW l g X Z y F Lw kc' ks' (pc + 3) L (rest) M') : AW l g X Z y F Lw kc ks pc L (v3 :: v2 :: v1 :: rest) M :=
  aw_callS (As := [v1, v2, v3]) (rest := rest) hd hw hm hf rfl rfl h8 (fun r M' h => by
    obtain ⟨rfl, h⟩ := h
    exact kk M' h)
theorem aw_S3i {i : Nat} {z : ab_Y} {F' Lw' mc ms kc' ks' : Nat} {Q : Int32 → ab_M → Prop} {v1 v2 v3 : Value} {rest : List Value} (hd : decode y.2.1 pc = .ok (.invokestatic i, 3)) (hw : ab_cS y.1.cls i z 3) (hm : AM l g z F' Lw' mc ms ([v1, v2, v3]) M (ab_Qi Q)) (hf : ab_fit F Lw kc ks z F' Lw' mc ms kc' ks' = true) (h8 : (rest.map fun v => v.category).sum ≤ 8) (kk : ∀ (x : Int32) (M' : ab_M), Q x M' → AW l g X Z y F Lw kc' ks' (pc + 3) L (.int x :: rest) M') : AW l g X Z y F Lw kc ks pc L (v3 :: v2 :: v1 :: rest) M :=
  aw_callS (As := [v1, v2, v3]) (rest := rest) hd hw hm hf rfl rfl h8 (fun r M' h => by
    obtain ⟨x, rfl, h⟩ := h
    exact kk x M' h)
theorem aw_S3l {i : Nat} {z : ab_Y} {F' Lw' mc ms kc' ks' : Nat} {Q : Int64 → ab_M → Prop} {v1 v2 v3 : Value} {rest : List Value} (hd : decode y.2.1 pc = .ok (.invokestatic i, 3)) (hw : ab_cS y.1.cls i z 3) (hm : AM l g z F' Lw' mc ms ([v1, v2, v3]) M (ab_Ql Q)) (hf : ab_fit F Lw kc ks z F' Lw' mc ms kc' ks' = true) (h8 : (rest.map fun v => v.category).sum ≤ 8) (kk : ∀ (x : Int64) (M' : ab_M), Q x M' → AW l g X Z y F Lw kc' ks' (pc + 3) L (.long x :: rest) M') : AW l g X Z y F Lw kc ks pc L (v3 :: v2 :: v1 :: rest) M :=
  aw_callS (As := [v1, v2, v3]) (rest := rest) hd hw hm hf rfl rfl h8 (fun r M' h => by
    obtain ⟨x, rfl, h⟩ := h
    exact kk x M' h)
theorem aw_S3r {i : Nat} {z : ab_Y} {F' Lw' mc ms kc' ks' : Nat} {Q : Nat → ab_M → Prop} {v1 v2 v3 : Value} {rest : List Value} (hd : decode y.2.1 pc = .ok (.invokestatic i, 3)) (hw : ab_cS y.1.cls i z 3) (hm : AM l g z F' Lw' mc ms ([v1, v2, v3]) M (ab_Qr Q)) (hf : ab_fit F Lw kc ks z F' Lw' mc ms kc' ks' = true) (h8 : (rest.map fun v => v.category).sum ≤ 8) (kk : ∀ (x : Nat) (M' : ab_M), Q x M' → AW l g X Z y F Lw kc' ks' (pc + 3) L (.ref x :: rest) M') : AW l g X Z y F Lw kc ks pc L (v3 :: v2 :: v1 :: rest) M :=
  aw_callS (As := [v1, v2, v3]) (rest := rest) hd hw hm hf rfl rfl h8 (fun r M' h => by
    obtain ⟨x, rfl, h⟩ := h
    exact kk x M' h)
theorem aw_S3q {i : Nat} {z : ab_Y} {F' Lw' mc ms kc' ks' : Nat} {Q : Option Nat → ab_M → Prop} {v1 v2 v3 : Value} {rest : List Value} (hd : decode y.2.1 pc = .ok (.invokestatic i, 3)) (hw : ab_cS y.1.cls i z 3) (hm : AM l g z F' Lw' mc ms ([v1, v2, v3]) M (ab_Qq Q)) (hf : ab_fit F Lw kc ks z F' Lw' mc ms kc' ks' = true) (h8 : (rest.map fun v => v.category).sum ≤ 8) (kk : ∀ (x : Option Nat) (M' : ab_M), Q x M' → AW l g X Z y F Lw kc' ks' (pc + 3) L (va_rf x :: rest) M') : AW l g X Z y F Lw kc ks pc L (v3 :: v2 :: v1 :: rest) M :=
  aw_callS (As := [v1, v2, v3]) (rest := rest) hd hw hm hf rfl rfl h8 (fun r M' h => by
    obtain ⟨x, rfl, h⟩ := h
    exact kk x M' h)
theorem aw_S4v {i : Nat} {z : ab_Y} {F' Lw' mc ms kc' ks' : Nat} {Q : ab_M → Prop} {v1 v2 v3 v4 : Value} {rest : List Value} (hd : decode y.2.1 pc = .ok (.invokestatic i, 3)) (hw : ab_cS y.1.cls i z 4) (hm : AM l g z F' Lw' mc ms ([v1, v2, v3, v4]) M (ab_Qv Q)) (hf : ab_fit F Lw kc ks z F' Lw' mc ms kc' ks' = true) (h8 : (rest.map fun v => v.category).sum ≤ 8) (kk : ∀ (M' : ab_M), Q M' → AW l g X Z y F Lw kc' ks' (pc + 3) L (rest) M') : AW l g X Z y F Lw kc ks pc L (v4 :: v3 :: v2 :: v1 :: rest) M :=
  aw_callS (As := [v1, v2, v3, v4]) (rest := rest) hd hw hm hf rfl rfl h8 (fun r M' h => by
    obtain ⟨rfl, h⟩ := h
    exact kk M' h)
theorem aw_S4i {i : Nat} {z : ab_Y} {F' Lw' mc ms kc' ks' : Nat} {Q : Int32 → ab_M → Prop} {v1 v2 v3 v4 : Value} {rest : List Value} (hd : decode y.2.1 pc = .ok (.invokestatic i, 3)) (hw : ab_cS y.1.cls i z 4) (hm : AM l g z F' Lw' mc ms ([v1, v2, v3, v4]) M (ab_Qi Q)) (hf : ab_fit F Lw kc ks z F' Lw' mc ms kc' ks' = true) (h8 : (rest.map fun v => v.category).sum ≤ 8) (kk : ∀ (x : Int32) (M' : ab_M), Q x M' → AW l g X Z y F Lw kc' ks' (pc + 3) L (.int x :: rest) M') : AW l g X Z y F Lw kc ks pc L (v4 :: v3 :: v2 :: v1 :: rest) M :=
  aw_callS (As := [v1, v2, v3, v4]) (rest := rest) hd hw hm hf rfl rfl h8 (fun r M' h => by
    obtain ⟨x, rfl, h⟩ := h
    exact kk x M' h)
theorem aw_S4l {i : Nat} {z : ab_Y} {F' Lw' mc ms kc' ks' : Nat} {Q : Int64 → ab_M → Prop} {v1 v2 v3 v4 : Value} {rest : List Value} (hd : decode y.2.1 pc = .ok (.invokestatic i, 3)) (hw : ab_cS y.1.cls i z 4) (hm : AM l g z F' Lw' mc ms ([v1, v2, v3, v4]) M (ab_Ql Q)) (hf : ab_fit F Lw kc ks z F' Lw' mc ms kc' ks' = true) (h8 : (rest.map fun v => v.category).sum ≤ 8) (kk : ∀ (x : Int64) (M' : ab_M), Q x M' → AW l g X Z y F Lw kc' ks' (pc + 3) L (.long x :: rest) M') : AW l g X Z y F Lw kc ks pc L (v4 :: v3 :: v2 :: v1 :: rest) M :=
  aw_callS (As := [v1, v2, v3, v4]) (rest := rest) hd hw hm hf rfl rfl h8 (fun r M' h => by
    obtain ⟨x, rfl, h⟩ := h
    exact kk x M' h)
theorem aw_S4r {i : Nat} {z : ab_Y} {F' Lw' mc ms kc' ks' : Nat} {Q : Nat → ab_M → Prop} {v1 v2 v3 v4 : Value} {rest : List Value} (hd : decode y.2.1 pc = .ok (.invokestatic i, 3)) (hw : ab_cS y.1.cls i z 4) (hm : AM l g z F' Lw' mc ms ([v1, v2, v3, v4]) M (ab_Qr Q)) (hf : ab_fit F Lw kc ks z F' Lw' mc ms kc' ks' = true) (h8 : (rest.map fun v => v.category).sum ≤ 8) (kk : ∀ (x : Nat) (M' : ab_M), Q x M' → AW l g X Z y F Lw kc' ks' (pc + 3) L (.ref x :: rest) M') : AW l g X Z y F Lw kc ks pc L (v4 :: v3 :: v2 :: v1 :: rest) M :=
  aw_callS (As := [v1, v2, v3, v4]) (rest := rest) hd hw hm hf rfl rfl h8 (fun r M' h => by
    obtain ⟨x, rfl, h⟩ := h
    exact kk x M' h)
theorem aw_S4q {i : Nat} {z : ab_Y} {F' Lw' mc ms kc' ks' : Nat} {Q : Option Nat → ab_M → Prop} {v1 v2 v3 v4 : Value} {rest : List Value} (hd : decode y.2.1 pc = .ok (.invokestatic i, 3)) (hw : ab_cS y.1.cls i z 4) (hm : AM l g z F' Lw' mc ms ([v1, v2, v3, v4]) M (ab_Qq Q)) (hf : ab_fit F Lw kc ks z F' Lw' mc ms kc' ks' = true) (h8 : (rest.map fun v => v.category).sum ≤ 8) (kk : ∀ (x : Option Nat) (M' : ab_M), Q x M' → AW l g X Z y F Lw kc' ks' (pc + 3) L (va_rf x :: rest) M') : AW l g X Z y F Lw kc ks pc L (v4 :: v3 :: v2 :: v1 :: rest) M :=
  aw_callS (As := [v1, v2, v3, v4]) (rest := rest) hd hw hm hf rfl rfl h8 (fun r M' h => by
    obtain ⟨x, rfl, h⟩ := h
    exact kk x M' h)
theorem aw_S5v {i : Nat} {z : ab_Y} {F' Lw' mc ms kc' ks' : Nat} {Q : ab_M → Prop} {v1 v2 v3 v4 v5 : Value} {rest : List Value} (hd : decode y.2.1 pc = .ok (.invokestatic i, 3)) (hw : ab_cS y.1.cls i z 5) (hm : AM l g z F' Lw' mc ms ([v1, v2, v3, v4, v5]) M (ab_Qv Q)) (hf : ab_fit F Lw kc ks z F' Lw' mc ms kc' ks' = true) (h8 : (rest.map fun v => v.category).sum ≤ 8) (kk : ∀ (M' : ab_M), Q M' → AW l g X Z y F Lw kc' ks' (pc + 3) L (rest) M') : AW l g X Z y F Lw kc ks pc L (v5 :: v4 :: v3 :: v2 :: v1 :: rest) M :=
  aw_callS (As := [v1, v2, v3, v4, v5]) (rest := rest) hd hw hm hf rfl rfl h8 (fun r M' h => by
    obtain ⟨rfl, h⟩ := h
    exact kk M' h)
theorem aw_S5i {i : Nat} {z : ab_Y} {F' Lw' mc ms kc' ks' : Nat} {Q : Int32 → ab_M → Prop} {v1 v2 v3 v4 v5 : Value} {rest : List Value} (hd : decode y.2.1 pc = .ok (.invokestatic i, 3)) (hw : ab_cS y.1.cls i z 5) (hm : AM l g z F' Lw' mc ms ([v1, v2, v3, v4, v5]) M (ab_Qi Q)) (hf : ab_fit F Lw kc ks z F' Lw' mc ms kc' ks' = true) (h8 : (rest.map fun v => v.category).sum ≤ 8) (kk : ∀ (x : Int32) (M' : ab_M), Q x M' → AW l g X Z y F Lw kc' ks' (pc + 3) L (.int x :: rest) M') : AW l g X Z y F Lw kc ks pc L (v5 :: v4 :: v3 :: v2 :: v1 :: rest) M :=
  aw_callS (As := [v1, v2, v3, v4, v5]) (rest := rest) hd hw hm hf rfl rfl h8 (fun r M' h => by
    obtain ⟨x, rfl, h⟩ := h
    exact kk x M' h)
theorem aw_S5l {i : Nat} {z : ab_Y} {F' Lw' mc ms kc' ks' : Nat} {Q : Int64 → ab_M → Prop} {v1 v2 v3 v4 v5 : Value} {rest : List Value} (hd : decode y.2.1 pc = .ok (.invokestatic i, 3)) (hw : ab_cS y.1.cls i z 5) (hm : AM l g z F' Lw' mc ms ([v1, v2, v3, v4, v5]) M (ab_Ql Q)) (hf : ab_fit F Lw kc ks z F' Lw' mc ms kc' ks' = true) (h8 : (rest.map fun v => v.category).sum ≤ 8) (kk : ∀ (x : Int64) (M' : ab_M), Q x M' → AW l g X Z y F Lw kc' ks' (pc + 3) L (.long x :: rest) M') : AW l g X Z y F Lw kc ks pc L (v5 :: v4 :: v3 :: v2 :: v1 :: rest) M :=
  aw_callS (As := [v1, v2, v3, v4, v5]) (rest := rest) hd hw hm hf rfl rfl h8 (fun r M' h => by
    obtain ⟨x, rfl, h⟩ := h
    exact kk x M' h)
theorem aw_S5r {i : Nat} {z : ab_Y} {F' Lw' mc ms kc' ks' : Nat} {Q : Nat → ab_M → Prop} {v1 v2 v3 v4 v5 : Value} {rest : List Value} (hd : decode y.2.1 pc = .ok (.invokestatic i, 3)) (hw : ab_cS y.1.cls i z 5) (hm : AM l g z F' Lw' mc ms ([v1, v2, v3, v4, v5]) M (ab_Qr Q)) (hf : ab_fit F Lw kc ks z F' Lw' mc ms kc' ks' = true) (h8 : (rest.map fun v => v.category).sum ≤ 8) (kk : ∀ (x : Nat) (M' : ab_M), Q x M' → AW l g X Z y F Lw kc' ks' (pc + 3) L (.ref x :: rest) M') : AW l g X Z y F Lw kc ks pc L (v5 :: v4 :: v3 :: v2 :: v1 :: rest) M :=
  aw_callS (As := [v1, v2, v3, v4, v5]) (rest := rest) hd hw hm hf rfl rfl h8 (fun r M' h => by
    obtain ⟨x, rfl, h⟩ := h
    exact kk x M' h)
theorem aw_S5q {i : Nat} {z : ab_Y} {F' Lw' mc ms kc' ks' : Nat} {Q : Option Nat → ab_M → Prop} {v1 v2 v3 v4 v5 : Value} {rest : List Value} (hd : decode y.2.1 pc = .ok (.invokestatic i, 3)) (hw : ab_cS y.1.cls i z 5) (hm : AM l g z F' Lw' mc ms ([v1, v2, v3, v4, v5]) M (ab_Qq Q)) (hf : ab_fit F Lw kc ks z F' Lw' mc ms kc' ks' = true) (h8 : (rest.map fun v => v.category).sum ≤ 8) (kk : ∀ (x : Option Nat) (M' : ab_M), Q x M' → AW l g X Z y F Lw kc' ks' (pc + 3) L (va_rf x :: rest) M') : AW l g X Z y F Lw kc ks pc L (v5 :: v4 :: v3 :: v2 :: v1 :: rest) M :=
  aw_callS (As := [v1, v2, v3, v4, v5]) (rest := rest) hd hw hm hf rfl rfl h8 (fun r M' h => by
    obtain ⟨x, rfl, h⟩ := h
    exact kk x M' h)
theorem aw_S6v {i : Nat} {z : ab_Y} {F' Lw' mc ms kc' ks' : Nat} {Q : ab_M → Prop} {v1 v2 v3 v4 v5 v6 : Value} {rest : List Value} (hd : decode y.2.1 pc = .ok (.invokestatic i, 3)) (hw : ab_cS y.1.cls i z 6) (hm : AM l g z F' Lw' mc ms ([v1, v2, v3, v4, v5, v6]) M (ab_Qv Q)) (hf : ab_fit F Lw kc ks z F' Lw' mc ms kc' ks' = true) (h8 : (rest.map fun v => v.category).sum ≤ 8) (kk : ∀ (M' : ab_M), Q M' → AW l g X Z y F Lw kc' ks' (pc + 3) L (rest) M') : AW l g X Z y F Lw kc ks pc L (v6 :: v5 :: v4 :: v3 :: v2 :: v1 :: rest) M :=
  aw_callS (As := [v1, v2, v3, v4, v5, v6]) (rest := rest) hd hw hm hf rfl rfl h8 (fun r M' h => by
    obtain ⟨rfl, h⟩ := h
    exact kk M' h)
theorem aw_S6i {i : Nat} {z : ab_Y} {F' Lw' mc ms kc' ks' : Nat} {Q : Int32 → ab_M → Prop} {v1 v2 v3 v4 v5 v6 : Value} {rest : List Value} (hd : decode y.2.1 pc = .ok (.invokestatic i, 3)) (hw : ab_cS y.1.cls i z 6) (hm : AM l g z F' Lw' mc ms ([v1, v2, v3, v4, v5, v6]) M (ab_Qi Q)) (hf : ab_fit F Lw kc ks z F' Lw' mc ms kc' ks' = true) (h8 : (rest.map fun v => v.category).sum ≤ 8) (kk : ∀ (x : Int32) (M' : ab_M), Q x M' → AW l g X Z y F Lw kc' ks' (pc + 3) L (.int x :: rest) M') : AW l g X Z y F Lw kc ks pc L (v6 :: v5 :: v4 :: v3 :: v2 :: v1 :: rest) M :=
  aw_callS (As := [v1, v2, v3, v4, v5, v6]) (rest := rest) hd hw hm hf rfl rfl h8 (fun r M' h => by
    obtain ⟨x, rfl, h⟩ := h
    exact kk x M' h)
theorem aw_S6l {i : Nat} {z : ab_Y} {F' Lw' mc ms kc' ks' : Nat} {Q : Int64 → ab_M → Prop} {v1 v2 v3 v4 v5 v6 : Value} {rest : List Value} (hd : decode y.2.1 pc = .ok (.invokestatic i, 3)) (hw : ab_cS y.1.cls i z 6) (hm : AM l g z F' Lw' mc ms ([v1, v2, v3, v4, v5, v6]) M (ab_Ql Q)) (hf : ab_fit F Lw kc ks z F' Lw' mc ms kc' ks' = true) (h8 : (rest.map fun v => v.category).sum ≤ 8) (kk : ∀ (x : Int64) (M' : ab_M), Q x M' → AW l g X Z y F Lw kc' ks' (pc + 3) L (.long x :: rest) M') : AW l g X Z y F Lw kc ks pc L (v6 :: v5 :: v4 :: v3 :: v2 :: v1 :: rest) M :=
  aw_callS (As := [v1, v2, v3, v4, v5, v6]) (rest := rest) hd hw hm hf rfl rfl h8 (fun r M' h => by
    obtain ⟨x, rfl, h⟩ := h
    exact kk x M' h)
theorem aw_S6r {i : Nat} {z : ab_Y} {F' Lw' mc ms kc' ks' : Nat} {Q : Nat → ab_M → Prop} {v1 v2 v3 v4 v5 v6 : Value} {rest : List Value} (hd : decode y.2.1 pc = .ok (.invokestatic i, 3)) (hw : ab_cS y.1.cls i z 6) (hm : AM l g z F' Lw' mc ms ([v1, v2, v3, v4, v5, v6]) M (ab_Qr Q)) (hf : ab_fit F Lw kc ks z F' Lw' mc ms kc' ks' = true) (h8 : (rest.map fun v => v.category).sum ≤ 8) (kk : ∀ (x : Nat) (M' : ab_M), Q x M' → AW l g X Z y F Lw kc' ks' (pc + 3) L (.ref x :: rest) M') : AW l g X Z y F Lw kc ks pc L (v6 :: v5 :: v4 :: v3 :: v2 :: v1 :: rest) M :=
  aw_callS (As := [v1, v2, v3, v4, v5, v6]) (rest := rest) hd hw hm hf rfl rfl h8 (fun r M' h => by
    obtain ⟨x, rfl, h⟩ := h
    exact kk x M' h)
theorem aw_S6q {i : Nat} {z : ab_Y} {F' Lw' mc ms kc' ks' : Nat} {Q : Option Nat → ab_M → Prop} {v1 v2 v3 v4 v5 v6 : Value} {rest : List Value} (hd : decode y.2.1 pc = .ok (.invokestatic i, 3)) (hw : ab_cS y.1.cls i z 6) (hm : AM l g z F' Lw' mc ms ([v1, v2, v3, v4, v5, v6]) M (ab_Qq Q)) (hf : ab_fit F Lw kc ks z F' Lw' mc ms kc' ks' = true) (h8 : (rest.map fun v => v.category).sum ≤ 8) (kk : ∀ (x : Option Nat) (M' : ab_M), Q x M' → AW l g X Z y F Lw kc' ks' (pc + 3) L (va_rf x :: rest) M') : AW l g X Z y F Lw kc ks pc L (v6 :: v5 :: v4 :: v3 :: v2 :: v1 :: rest) M :=
  aw_callS (As := [v1, v2, v3, v4, v5, v6]) (rest := rest) hd hw hm hf rfl rfl h8 (fun r M' h => by
    obtain ⟨x, rfl, h⟩ := h
    exact kk x M' h)
theorem aw_N0v {i : Nat} {z : ab_Y} {F' Lw' mc ms kc' ks' : Nat} {Q : ab_M → Prop} {rest : List Value} (hd : decode y.2.1 pc = .ok (.invokestatic i, 3)) (hw : ab_cN y.1.cls i z 0) (hm : AM l g z F' Lw' mc ms ([]) M (ab_Qv Q)) (hf : ab_fit F Lw kc ks z F' Lw' mc ms kc' ks' = true) (h8 : (rest.map fun v => v.category).sum ≤ 8) (kk : ∀ (M' : ab_M), Q M' → AW l g X Z y F Lw kc' ks' (pc + 3) L (rest) M') : AW l g X Z y F Lw kc ks pc L (rest) M :=
  aw_callN (As := []) (rest := rest) hd hw hm hf rfl rfl h8 (fun r M' h => by
    obtain ⟨rfl, h⟩ := h
    exact kk M' h)
theorem aw_N0i {i : Nat} {z : ab_Y} {F' Lw' mc ms kc' ks' : Nat} {Q : Int32 → ab_M → Prop} {rest : List Value} (hd : decode y.2.1 pc = .ok (.invokestatic i, 3)) (hw : ab_cN y.1.cls i z 0) (hm : AM l g z F' Lw' mc ms ([]) M (ab_Qi Q)) (hf : ab_fit F Lw kc ks z F' Lw' mc ms kc' ks' = true) (h8 : (rest.map fun v => v.category).sum ≤ 8) (kk : ∀ (x : Int32) (M' : ab_M), Q x M' → AW l g X Z y F Lw kc' ks' (pc + 3) L (.int x :: rest) M') : AW l g X Z y F Lw kc ks pc L (rest) M :=
  aw_callN (As := []) (rest := rest) hd hw hm hf rfl rfl h8 (fun r M' h => by
    obtain ⟨x, rfl, h⟩ := h
    exact kk x M' h)
theorem aw_N0l {i : Nat} {z : ab_Y} {F' Lw' mc ms kc' ks' : Nat} {Q : Int64 → ab_M → Prop} {rest : List Value} (hd : decode y.2.1 pc = .ok (.invokestatic i, 3)) (hw : ab_cN y.1.cls i z 0) (hm : AM l g z F' Lw' mc ms ([]) M (ab_Ql Q)) (hf : ab_fit F Lw kc ks z F' Lw' mc ms kc' ks' = true) (h8 : (rest.map fun v => v.category).sum ≤ 8) (kk : ∀ (x : Int64) (M' : ab_M), Q x M' → AW l g X Z y F Lw kc' ks' (pc + 3) L (.long x :: rest) M') : AW l g X Z y F Lw kc ks pc L (rest) M :=
  aw_callN (As := []) (rest := rest) hd hw hm hf rfl rfl h8 (fun r M' h => by
    obtain ⟨x, rfl, h⟩ := h
    exact kk x M' h)
theorem aw_N0r {i : Nat} {z : ab_Y} {F' Lw' mc ms kc' ks' : Nat} {Q : Nat → ab_M → Prop} {rest : List Value} (hd : decode y.2.1 pc = .ok (.invokestatic i, 3)) (hw : ab_cN y.1.cls i z 0) (hm : AM l g z F' Lw' mc ms ([]) M (ab_Qr Q)) (hf : ab_fit F Lw kc ks z F' Lw' mc ms kc' ks' = true) (h8 : (rest.map fun v => v.category).sum ≤ 8) (kk : ∀ (x : Nat) (M' : ab_M), Q x M' → AW l g X Z y F Lw kc' ks' (pc + 3) L (.ref x :: rest) M') : AW l g X Z y F Lw kc ks pc L (rest) M :=
  aw_callN (As := []) (rest := rest) hd hw hm hf rfl rfl h8 (fun r M' h => by
    obtain ⟨x, rfl, h⟩ := h
    exact kk x M' h)
theorem aw_N0q {i : Nat} {z : ab_Y} {F' Lw' mc ms kc' ks' : Nat} {Q : Option Nat → ab_M → Prop} {rest : List Value} (hd : decode y.2.1 pc = .ok (.invokestatic i, 3)) (hw : ab_cN y.1.cls i z 0) (hm : AM l g z F' Lw' mc ms ([]) M (ab_Qq Q)) (hf : ab_fit F Lw kc ks z F' Lw' mc ms kc' ks' = true) (h8 : (rest.map fun v => v.category).sum ≤ 8) (kk : ∀ (x : Option Nat) (M' : ab_M), Q x M' → AW l g X Z y F Lw kc' ks' (pc + 3) L (va_rf x :: rest) M') : AW l g X Z y F Lw kc ks pc L (rest) M :=
  aw_callN (As := []) (rest := rest) hd hw hm hf rfl rfl h8 (fun r M' h => by
    obtain ⟨x, rfl, h⟩ := h
    exact kk x M' h)
theorem aw_N1v {i : Nat} {z : ab_Y} {F' Lw' mc ms kc' ks' : Nat} {Q : ab_M → Prop} {v1 : Value} {rest : List Value} (hd : decode y.2.1 pc = .ok (.invokestatic i, 3)) (hw : ab_cN y.1.cls i z 1) (hm : AM l g z F' Lw' mc ms ([v1]) M (ab_Qv Q)) (hf : ab_fit F Lw kc ks z F' Lw' mc ms kc' ks' = true) (h8 : (rest.map fun v => v.category).sum ≤ 8) (kk : ∀ (M' : ab_M), Q M' → AW l g X Z y F Lw kc' ks' (pc + 3) L (rest) M') : AW l g X Z y F Lw kc ks pc L (v1 :: rest) M :=
  aw_callN (As := [v1]) (rest := rest) hd hw hm hf rfl rfl h8 (fun r M' h => by
    obtain ⟨rfl, h⟩ := h
    exact kk M' h)
theorem aw_N1i {i : Nat} {z : ab_Y} {F' Lw' mc ms kc' ks' : Nat} {Q : Int32 → ab_M → Prop} {v1 : Value} {rest : List Value} (hd : decode y.2.1 pc = .ok (.invokestatic i, 3)) (hw : ab_cN y.1.cls i z 1) (hm : AM l g z F' Lw' mc ms ([v1]) M (ab_Qi Q)) (hf : ab_fit F Lw kc ks z F' Lw' mc ms kc' ks' = true) (h8 : (rest.map fun v => v.category).sum ≤ 8) (kk : ∀ (x : Int32) (M' : ab_M), Q x M' → AW l g X Z y F Lw kc' ks' (pc + 3) L (.int x :: rest) M') : AW l g X Z y F Lw kc ks pc L (v1 :: rest) M :=
  aw_callN (As := [v1]) (rest := rest) hd hw hm hf rfl rfl h8 (fun r M' h => by
    obtain ⟨x, rfl, h⟩ := h
    exact kk x M' h)
theorem aw_N1l {i : Nat} {z : ab_Y} {F' Lw' mc ms kc' ks' : Nat} {Q : Int64 → ab_M → Prop} {v1 : Value} {rest : List Value} (hd : decode y.2.1 pc = .ok (.invokestatic i, 3)) (hw : ab_cN y.1.cls i z 1) (hm : AM l g z F' Lw' mc ms ([v1]) M (ab_Ql Q)) (hf : ab_fit F Lw kc ks z F' Lw' mc ms kc' ks' = true) (h8 : (rest.map fun v => v.category).sum ≤ 8) (kk : ∀ (x : Int64) (M' : ab_M), Q x M' → AW l g X Z y F Lw kc' ks' (pc + 3) L (.long x :: rest) M') : AW l g X Z y F Lw kc ks pc L (v1 :: rest) M :=
  aw_callN (As := [v1]) (rest := rest) hd hw hm hf rfl rfl h8 (fun r M' h => by
    obtain ⟨x, rfl, h⟩ := h
    exact kk x M' h)
theorem aw_N1r {i : Nat} {z : ab_Y} {F' Lw' mc ms kc' ks' : Nat} {Q : Nat → ab_M → Prop} {v1 : Value} {rest : List Value} (hd : decode y.2.1 pc = .ok (.invokestatic i, 3)) (hw : ab_cN y.1.cls i z 1) (hm : AM l g z F' Lw' mc ms ([v1]) M (ab_Qr Q)) (hf : ab_fit F Lw kc ks z F' Lw' mc ms kc' ks' = true) (h8 : (rest.map fun v => v.category).sum ≤ 8) (kk : ∀ (x : Nat) (M' : ab_M), Q x M' → AW l g X Z y F Lw kc' ks' (pc + 3) L (.ref x :: rest) M') : AW l g X Z y F Lw kc ks pc L (v1 :: rest) M :=
  aw_callN (As := [v1]) (rest := rest) hd hw hm hf rfl rfl h8 (fun r M' h => by
    obtain ⟨x, rfl, h⟩ := h
    exact kk x M' h)
theorem aw_N1q {i : Nat} {z : ab_Y} {F' Lw' mc ms kc' ks' : Nat} {Q : Option Nat → ab_M → Prop} {v1 : Value} {rest : List Value} (hd : decode y.2.1 pc = .ok (.invokestatic i, 3)) (hw : ab_cN y.1.cls i z 1) (hm : AM l g z F' Lw' mc ms ([v1]) M (ab_Qq Q)) (hf : ab_fit F Lw kc ks z F' Lw' mc ms kc' ks' = true) (h8 : (rest.map fun v => v.category).sum ≤ 8) (kk : ∀ (x : Option Nat) (M' : ab_M), Q x M' → AW l g X Z y F Lw kc' ks' (pc + 3) L (va_rf x :: rest) M') : AW l g X Z y F Lw kc ks pc L (v1 :: rest) M :=
  aw_callN (As := [v1]) (rest := rest) hd hw hm hf rfl rfl h8 (fun r M' h => by
    obtain ⟨x, rfl, h⟩ := h
    exact kk x M' h)
theorem aw_N2v {i : Nat} {z : ab_Y} {F' Lw' mc ms kc' ks' : Nat} {Q : ab_M → Prop} {v1 v2 : Value} {rest : List Value} (hd : decode y.2.1 pc = .ok (.invokestatic i, 3)) (hw : ab_cN y.1.cls i z 2) (hm : AM l g z F' Lw' mc ms ([v1, v2]) M (ab_Qv Q)) (hf : ab_fit F Lw kc ks z F' Lw' mc ms kc' ks' = true) (h8 : (rest.map fun v => v.category).sum ≤ 8) (kk : ∀ (M' : ab_M), Q M' → AW l g X Z y F Lw kc' ks' (pc + 3) L (rest) M') : AW l g X Z y F Lw kc ks pc L (v2 :: v1 :: rest) M :=
  aw_callN (As := [v1, v2]) (rest := rest) hd hw hm hf rfl rfl h8 (fun r M' h => by
    obtain ⟨rfl, h⟩ := h
    exact kk M' h)
theorem aw_N2i {i : Nat} {z : ab_Y} {F' Lw' mc ms kc' ks' : Nat} {Q : Int32 → ab_M → Prop} {v1 v2 : Value} {rest : List Value} (hd : decode y.2.1 pc = .ok (.invokestatic i, 3)) (hw : ab_cN y.1.cls i z 2) (hm : AM l g z F' Lw' mc ms ([v1, v2]) M (ab_Qi Q)) (hf : ab_fit F Lw kc ks z F' Lw' mc ms kc' ks' = true) (h8 : (rest.map fun v => v.category).sum ≤ 8) (kk : ∀ (x : Int32) (M' : ab_M), Q x M' → AW l g X Z y F Lw kc' ks' (pc + 3) L (.int x :: rest) M') : AW l g X Z y F Lw kc ks pc L (v2 :: v1 :: rest) M :=
  aw_callN (As := [v1, v2]) (rest := rest) hd hw hm hf rfl rfl h8 (fun r M' h => by
    obtain ⟨x, rfl, h⟩ := h
    exact kk x M' h)
theorem aw_N2l {i : Nat} {z : ab_Y} {F' Lw' mc ms kc' ks' : Nat} {Q : Int64 → ab_M → Prop} {v1 v2 : Value} {rest : List Value} (hd : decode y.2.1 pc = .ok (.invokestatic i, 3)) (hw : ab_cN y.1.cls i z 2) (hm : AM l g z F' Lw' mc ms ([v1, v2]) M (ab_Ql Q)) (hf : ab_fit F Lw kc ks z F' Lw' mc ms kc' ks' = true) (h8 : (rest.map fun v => v.category).sum ≤ 8) (kk : ∀ (x : Int64) (M' : ab_M), Q x M' → AW l g X Z y F Lw kc' ks' (pc + 3) L (.long x :: rest) M') : AW l g X Z y F Lw kc ks pc L (v2 :: v1 :: rest) M :=
  aw_callN (As := [v1, v2]) (rest := rest) hd hw hm hf rfl rfl h8 (fun r M' h => by
    obtain ⟨x, rfl, h⟩ := h
    exact kk x M' h)
theorem aw_N2r {i : Nat} {z : ab_Y} {F' Lw' mc ms kc' ks' : Nat} {Q : Nat → ab_M → Prop} {v1 v2 : Value} {rest : List Value} (hd : decode y.2.1 pc = .ok (.invokestatic i, 3)) (hw : ab_cN y.1.cls i z 2) (hm : AM l g z F' Lw' mc ms ([v1, v2]) M (ab_Qr Q)) (hf : ab_fit F Lw kc ks z F' Lw' mc ms kc' ks' = true) (h8 : (rest.map fun v => v.category).sum ≤ 8) (kk : ∀ (x : Nat) (M' : ab_M), Q x M' → AW l g X Z y F Lw kc' ks' (pc + 3) L (.ref x :: rest) M') : AW l g X Z y F Lw kc ks pc L (v2 :: v1 :: rest) M :=
  aw_callN (As := [v1, v2]) (rest := rest) hd hw hm hf rfl rfl h8 (fun r M' h => by
    obtain ⟨x, rfl, h⟩ := h
    exact kk x M' h)
theorem aw_N2q {i : Nat} {z : ab_Y} {F' Lw' mc ms kc' ks' : Nat} {Q : Option Nat → ab_M → Prop} {v1 v2 : Value} {rest : List Value} (hd : decode y.2.1 pc = .ok (.invokestatic i, 3)) (hw : ab_cN y.1.cls i z 2) (hm : AM l g z F' Lw' mc ms ([v1, v2]) M (ab_Qq Q)) (hf : ab_fit F Lw kc ks z F' Lw' mc ms kc' ks' = true) (h8 : (rest.map fun v => v.category).sum ≤ 8) (kk : ∀ (x : Option Nat) (M' : ab_M), Q x M' → AW l g X Z y F Lw kc' ks' (pc + 3) L (va_rf x :: rest) M') : AW l g X Z y F Lw kc ks pc L (v2 :: v1 :: rest) M :=
  aw_callN (As := [v1, v2]) (rest := rest) hd hw hm hf rfl rfl h8 (fun r M' h => by
    obtain ⟨x, rfl, h⟩ := h
    exact kk x M' h)
theorem aw_N3v {i : Nat} {z : ab_Y} {F' Lw' mc ms kc' ks' : Nat} {Q : ab_M → Prop} {v1 v2 v3 : Value} {rest : List Value} (hd : decode y.2.1 pc = .ok (.invokestatic i, 3)) (hw : ab_cN y.1.cls i z 3) (hm : AM l g z F' Lw' mc ms ([v1, v2, v3]) M (ab_Qv Q)) (hf : ab_fit F Lw kc ks z F' Lw' mc ms kc' ks' = true) (h8 : (rest.map fun v => v.category).sum ≤ 8) (kk : ∀ (M' : ab_M), Q M' → AW l g X Z y F Lw kc' ks' (pc + 3) L (rest) M') : AW l g X Z y F Lw kc ks pc L (v3 :: v2 :: v1 :: rest) M :=
  aw_callN (As := [v1, v2, v3]) (rest := rest) hd hw hm hf rfl rfl h8 (fun r M' h => by
    obtain ⟨rfl, h⟩ := h
    exact kk M' h)
theorem aw_N3i {i : Nat} {z : ab_Y} {F' Lw' mc ms kc' ks' : Nat} {Q : Int32 → ab_M → Prop} {v1 v2 v3 : Value} {rest : List Value} (hd : decode y.2.1 pc = .ok (.invokestatic i, 3)) (hw : ab_cN y.1.cls i z 3) (hm : AM l g z F' Lw' mc ms ([v1, v2, v3]) M (ab_Qi Q)) (hf : ab_fit F Lw kc ks z F' Lw' mc ms kc' ks' = true) (h8 : (rest.map fun v => v.category).sum ≤ 8) (kk : ∀ (x : Int32) (M' : ab_M), Q x M' → AW l g X Z y F Lw kc' ks' (pc + 3) L (.int x :: rest) M') : AW l g X Z y F Lw kc ks pc L (v3 :: v2 :: v1 :: rest) M :=
  aw_callN (As := [v1, v2, v3]) (rest := rest) hd hw hm hf rfl rfl h8 (fun r M' h => by
    obtain ⟨x, rfl, h⟩ := h
    exact kk x M' h)
theorem aw_N3l {i : Nat} {z : ab_Y} {F' Lw' mc ms kc' ks' : Nat} {Q : Int64 → ab_M → Prop} {v1 v2 v3 : Value} {rest : List Value} (hd : decode y.2.1 pc = .ok (.invokestatic i, 3)) (hw : ab_cN y.1.cls i z 3) (hm : AM l g z F' Lw' mc ms ([v1, v2, v3]) M (ab_Ql Q)) (hf : ab_fit F Lw kc ks z F' Lw' mc ms kc' ks' = true) (h8 : (rest.map fun v => v.category).sum ≤ 8) (kk : ∀ (x : Int64) (M' : ab_M), Q x M' → AW l g X Z y F Lw kc' ks' (pc + 3) L (.long x :: rest) M') : AW l g X Z y F Lw kc ks pc L (v3 :: v2 :: v1 :: rest) M :=
  aw_callN (As := [v1, v2, v3]) (rest := rest) hd hw hm hf rfl rfl h8 (fun r M' h => by
    obtain ⟨x, rfl, h⟩ := h
    exact kk x M' h)
theorem aw_N3r {i : Nat} {z : ab_Y} {F' Lw' mc ms kc' ks' : Nat} {Q : Nat → ab_M → Prop} {v1 v2 v3 : Value} {rest : List Value} (hd : decode y.2.1 pc = .ok (.invokestatic i, 3)) (hw : ab_cN y.1.cls i z 3) (hm : AM l g z F' Lw' mc ms ([v1, v2, v3]) M (ab_Qr Q)) (hf : ab_fit F Lw kc ks z F' Lw' mc ms kc' ks' = true) (h8 : (rest.map fun v => v.category).sum ≤ 8) (kk : ∀ (x : Nat) (M' : ab_M), Q x M' → AW l g X Z y F Lw kc' ks' (pc + 3) L (.ref x :: rest) M') : AW l g X Z y F Lw kc ks pc L (v3 :: v2 :: v1 :: rest) M :=
  aw_callN (As := [v1, v2, v3]) (rest := rest) hd hw hm hf rfl rfl h8 (fun r M' h => by
    obtain ⟨x, rfl, h⟩ := h
    exact kk x M' h)
theorem aw_N3q {i : Nat} {z : ab_Y} {F' Lw' mc ms kc' ks' : Nat} {Q : Option Nat → ab_M → Prop} {v1 v2 v3 : Value} {rest : List Value} (hd : decode y.2.1 pc = .ok (.invokestatic i, 3)) (hw : ab_cN y.1.cls i z 3) (hm : AM l g z F' Lw' mc ms ([v1, v2, v3]) M (ab_Qq Q)) (hf : ab_fit F Lw kc ks z F' Lw' mc ms kc' ks' = true) (h8 : (rest.map fun v => v.category).sum ≤ 8) (kk : ∀ (x : Option Nat) (M' : ab_M), Q x M' → AW l g X Z y F Lw kc' ks' (pc + 3) L (va_rf x :: rest) M') : AW l g X Z y F Lw kc ks pc L (v3 :: v2 :: v1 :: rest) M :=
  aw_callN (As := [v1, v2, v3]) (rest := rest) hd hw hm hf rfl rfl h8 (fun r M' h => by
    obtain ⟨x, rfl, h⟩ := h
    exact kk x M' h)
theorem aw_N4v {i : Nat} {z : ab_Y} {F' Lw' mc ms kc' ks' : Nat} {Q : ab_M → Prop} {v1 v2 v3 v4 : Value} {rest : List Value} (hd : decode y.2.1 pc = .ok (.invokestatic i, 3)) (hw : ab_cN y.1.cls i z 4) (hm : AM l g z F' Lw' mc ms ([v1, v2, v3, v4]) M (ab_Qv Q)) (hf : ab_fit F Lw kc ks z F' Lw' mc ms kc' ks' = true) (h8 : (rest.map fun v => v.category).sum ≤ 8) (kk : ∀ (M' : ab_M), Q M' → AW l g X Z y F Lw kc' ks' (pc + 3) L (rest) M') : AW l g X Z y F Lw kc ks pc L (v4 :: v3 :: v2 :: v1 :: rest) M :=
  aw_callN (As := [v1, v2, v3, v4]) (rest := rest) hd hw hm hf rfl rfl h8 (fun r M' h => by
    obtain ⟨rfl, h⟩ := h
    exact kk M' h)
theorem aw_N4i {i : Nat} {z : ab_Y} {F' Lw' mc ms kc' ks' : Nat} {Q : Int32 → ab_M → Prop} {v1 v2 v3 v4 : Value} {rest : List Value} (hd : decode y.2.1 pc = .ok (.invokestatic i, 3)) (hw : ab_cN y.1.cls i z 4) (hm : AM l g z F' Lw' mc ms ([v1, v2, v3, v4]) M (ab_Qi Q)) (hf : ab_fit F Lw kc ks z F' Lw' mc ms kc' ks' = true) (h8 : (rest.map fun v => v.category).sum ≤ 8) (kk : ∀ (x : Int32) (M' : ab_M), Q x M' → AW l g X Z y F Lw kc' ks' (pc + 3) L (.int x :: rest) M') : AW l g X Z y F Lw kc ks pc L (v4 :: v3 :: v2 :: v1 :: rest) M :=
  aw_callN (As := [v1, v2, v3, v4]) (rest := rest) hd hw hm hf rfl rfl h8 (fun r M' h => by
    obtain ⟨x, rfl, h⟩ := h
    exact kk x M' h)
theorem aw_N4l {i : Nat} {z : ab_Y} {F' Lw' mc ms kc' ks' : Nat} {Q : Int64 → ab_M → Prop} {v1 v2 v3 v4 : Value} {rest : List Value} (hd : decode y.2.1 pc = .ok (.invokestatic i, 3)) (hw : ab_cN y.1.cls i z 4) (hm : AM l g z F' Lw' mc ms ([v1, v2, v3, v4]) M (ab_Ql Q)) (hf : ab_fit F Lw kc ks z F' Lw' mc ms kc' ks' = true) (h8 : (rest.map fun v => v.category).sum ≤ 8) (kk : ∀ (x : Int64) (M' : ab_M), Q x M' → AW l g X Z y F Lw kc' ks' (pc + 3) L (.long x :: rest) M') : AW l g X Z y F Lw kc ks pc L (v4 :: v3 :: v2 :: v1 :: rest) M :=
  aw_callN (As := [v1, v2, v3, v4]) (rest := rest) hd hw hm hf rfl rfl h8 (fun r M' h => by
    obtain ⟨x, rfl, h⟩ := h
    exact kk x M' h)
theorem aw_N4r {i : Nat} {z : ab_Y} {F' Lw' mc ms kc' ks' : Nat} {Q : Nat → ab_M → Prop} {v1 v2 v3 v4 : Value} {rest : List Value} (hd : decode y.2.1 pc = .ok (.invokestatic i, 3)) (hw : ab_cN y.1.cls i z 4) (hm : AM l g z F' Lw' mc ms ([v1, v2, v3, v4]) M (ab_Qr Q)) (hf : ab_fit F Lw kc ks z F' Lw' mc ms kc' ks' = true) (h8 : (rest.map fun v => v.category).sum ≤ 8) (kk : ∀ (x : Nat) (M' : ab_M), Q x M' → AW l g X Z y F Lw kc' ks' (pc + 3) L (.ref x :: rest) M') : AW l g X Z y F Lw kc ks pc L (v4 :: v3 :: v2 :: v1 :: rest) M :=
  aw_callN (As := [v1, v2, v3, v4]) (rest := rest) hd hw hm hf rfl rfl h8 (fun r M' h => by
    obtain ⟨x, rfl, h⟩ := h
    exact kk x M' h)
theorem aw_N4q {i : Nat} {z : ab_Y} {F' Lw' mc ms kc' ks' : Nat} {Q : Option Nat → ab_M → Prop} {v1 v2 v3 v4 : Value} {rest : List Value} (hd : decode y.2.1 pc = .ok (.invokestatic i, 3)) (hw : ab_cN y.1.cls i z 4) (hm : AM l g z F' Lw' mc ms ([v1, v2, v3, v4]) M (ab_Qq Q)) (hf : ab_fit F Lw kc ks z F' Lw' mc ms kc' ks' = true) (h8 : (rest.map fun v => v.category).sum ≤ 8) (kk : ∀ (x : Option Nat) (M' : ab_M), Q x M' → AW l g X Z y F Lw kc' ks' (pc + 3) L (va_rf x :: rest) M') : AW l g X Z y F Lw kc ks pc L (v4 :: v3 :: v2 :: v1 :: rest) M :=
  aw_callN (As := [v1, v2, v3, v4]) (rest := rest) hd hw hm hf rfl rfl h8 (fun r M' h => by
    obtain ⟨x, rfl, h⟩ := h
    exact kk x M' h)
theorem aw_N5v {i : Nat} {z : ab_Y} {F' Lw' mc ms kc' ks' : Nat} {Q : ab_M → Prop} {v1 v2 v3 v4 v5 : Value} {rest : List Value} (hd : decode y.2.1 pc = .ok (.invokestatic i, 3)) (hw : ab_cN y.1.cls i z 5) (hm : AM l g z F' Lw' mc ms ([v1, v2, v3, v4, v5]) M (ab_Qv Q)) (hf : ab_fit F Lw kc ks z F' Lw' mc ms kc' ks' = true) (h8 : (rest.map fun v => v.category).sum ≤ 8) (kk : ∀ (M' : ab_M), Q M' → AW l g X Z y F Lw kc' ks' (pc + 3) L (rest) M') : AW l g X Z y F Lw kc ks pc L (v5 :: v4 :: v3 :: v2 :: v1 :: rest) M :=
  aw_callN (As := [v1, v2, v3, v4, v5]) (rest := rest) hd hw hm hf rfl rfl h8 (fun r M' h => by
    obtain ⟨rfl, h⟩ := h
    exact kk M' h)
theorem aw_N5i {i : Nat} {z : ab_Y} {F' Lw' mc ms kc' ks' : Nat} {Q : Int32 → ab_M → Prop} {v1 v2 v3 v4 v5 : Value} {rest : List Value} (hd : decode y.2.1 pc = .ok (.invokestatic i, 3)) (hw : ab_cN y.1.cls i z 5) (hm : AM l g z F' Lw' mc ms ([v1, v2, v3, v4, v5]) M (ab_Qi Q)) (hf : ab_fit F Lw kc ks z F' Lw' mc ms kc' ks' = true) (h8 : (rest.map fun v => v.category).sum ≤ 8) (kk : ∀ (x : Int32) (M' : ab_M), Q x M' → AW l g X Z y F Lw kc' ks' (pc + 3) L (.int x :: rest) M') : AW l g X Z y F Lw kc ks pc L (v5 :: v4 :: v3 :: v2 :: v1 :: rest) M :=
  aw_callN (As := [v1, v2, v3, v4, v5]) (rest := rest) hd hw hm hf rfl rfl h8 (fun r M' h => by
    obtain ⟨x, rfl, h⟩ := h
    exact kk x M' h)
theorem aw_N5l {i : Nat} {z : ab_Y} {F' Lw' mc ms kc' ks' : Nat} {Q : Int64 → ab_M → Prop} {v1 v2 v3 v4 v5 : Value} {rest : List Value} (hd : decode y.2.1 pc = .ok (.invokestatic i, 3)) (hw : ab_cN y.1.cls i z 5) (hm : AM l g z F' Lw' mc ms ([v1, v2, v3, v4, v5]) M (ab_Ql Q)) (hf : ab_fit F Lw kc ks z F' Lw' mc ms kc' ks' = true) (h8 : (rest.map fun v => v.category).sum ≤ 8) (kk : ∀ (x : Int64) (M' : ab_M), Q x M' → AW l g X Z y F Lw kc' ks' (pc + 3) L (.long x :: rest) M') : AW l g X Z y F Lw kc ks pc L (v5 :: v4 :: v3 :: v2 :: v1 :: rest) M :=
  aw_callN (As := [v1, v2, v3, v4, v5]) (rest := rest) hd hw hm hf rfl rfl h8 (fun r M' h => by
    obtain ⟨x, rfl, h⟩ := h
    exact kk x M' h)
theorem aw_N5r {i : Nat} {z : ab_Y} {F' Lw' mc ms kc' ks' : Nat} {Q : Nat → ab_M → Prop} {v1 v2 v3 v4 v5 : Value} {rest : List Value} (hd : decode y.2.1 pc = .ok (.invokestatic i, 3)) (hw : ab_cN y.1.cls i z 5) (hm : AM l g z F' Lw' mc ms ([v1, v2, v3, v4, v5]) M (ab_Qr Q)) (hf : ab_fit F Lw kc ks z F' Lw' mc ms kc' ks' = true) (h8 : (rest.map fun v => v.category).sum ≤ 8) (kk : ∀ (x : Nat) (M' : ab_M), Q x M' → AW l g X Z y F Lw kc' ks' (pc + 3) L (.ref x :: rest) M') : AW l g X Z y F Lw kc ks pc L (v5 :: v4 :: v3 :: v2 :: v1 :: rest) M :=
  aw_callN (As := [v1, v2, v3, v4, v5]) (rest := rest) hd hw hm hf rfl rfl h8 (fun r M' h => by
    obtain ⟨x, rfl, h⟩ := h
    exact kk x M' h)
theorem aw_N5q {i : Nat} {z : ab_Y} {F' Lw' mc ms kc' ks' : Nat} {Q : Option Nat → ab_M → Prop} {v1 v2 v3 v4 v5 : Value} {rest : List Value} (hd : decode y.2.1 pc = .ok (.invokestatic i, 3)) (hw : ab_cN y.1.cls i z 5) (hm : AM l g z F' Lw' mc ms ([v1, v2, v3, v4, v5]) M (ab_Qq Q)) (hf : ab_fit F Lw kc ks z F' Lw' mc ms kc' ks' = true) (h8 : (rest.map fun v => v.category).sum ≤ 8) (kk : ∀ (x : Option Nat) (M' : ab_M), Q x M' → AW l g X Z y F Lw kc' ks' (pc + 3) L (va_rf x :: rest) M') : AW l g X Z y F Lw kc ks pc L (v5 :: v4 :: v3 :: v2 :: v1 :: rest) M :=
  aw_callN (As := [v1, v2, v3, v4, v5]) (rest := rest) hd hw hm hf rfl rfl h8 (fun r M' h => by
    obtain ⟨x, rfl, h⟩ := h
    exact kk x M' h)
theorem aw_N6v {i : Nat} {z : ab_Y} {F' Lw' mc ms kc' ks' : Nat} {Q : ab_M → Prop} {v1 v2 v3 v4 v5 v6 : Value} {rest : List Value} (hd : decode y.2.1 pc = .ok (.invokestatic i, 3)) (hw : ab_cN y.1.cls i z 6) (hm : AM l g z F' Lw' mc ms ([v1, v2, v3, v4, v5, v6]) M (ab_Qv Q)) (hf : ab_fit F Lw kc ks z F' Lw' mc ms kc' ks' = true) (h8 : (rest.map fun v => v.category).sum ≤ 8) (kk : ∀ (M' : ab_M), Q M' → AW l g X Z y F Lw kc' ks' (pc + 3) L (rest) M') : AW l g X Z y F Lw kc ks pc L (v6 :: v5 :: v4 :: v3 :: v2 :: v1 :: rest) M :=
  aw_callN (As := [v1, v2, v3, v4, v5, v6]) (rest := rest) hd hw hm hf rfl rfl h8 (fun r M' h => by
    obtain ⟨rfl, h⟩ := h
    exact kk M' h)
theorem aw_N6i {i : Nat} {z : ab_Y} {F' Lw' mc ms kc' ks' : Nat} {Q : Int32 → ab_M → Prop} {v1 v2 v3 v4 v5 v6 : Value} {rest : List Value} (hd : decode y.2.1 pc = .ok (.invokestatic i, 3)) (hw : ab_cN y.1.cls i z 6) (hm : AM l g z F' Lw' mc ms ([v1, v2, v3, v4, v5, v6]) M (ab_Qi Q)) (hf : ab_fit F Lw kc ks z F' Lw' mc ms kc' ks' = true) (h8 : (rest.map fun v => v.category).sum ≤ 8) (kk : ∀ (x : Int32) (M' : ab_M), Q x M' → AW l g X Z y F Lw kc' ks' (pc + 3) L (.int x :: rest) M') : AW l g X Z y F Lw kc ks pc L (v6 :: v5 :: v4 :: v3 :: v2 :: v1 :: rest) M :=
  aw_callN (As := [v1, v2, v3, v4, v5, v6]) (rest := rest) hd hw hm hf rfl rfl h8 (fun r M' h => by
    obtain ⟨x, rfl, h⟩ := h
    exact kk x M' h)
theorem aw_N6l {i : Nat} {z : ab_Y} {F' Lw' mc ms kc' ks' : Nat} {Q : Int64 → ab_M → Prop} {v1 v2 v3 v4 v5 v6 : Value} {rest : List Value} (hd : decode y.2.1 pc = .ok (.invokestatic i, 3)) (hw : ab_cN y.1.cls i z 6) (hm : AM l g z F' Lw' mc ms ([v1, v2, v3, v4, v5, v6]) M (ab_Ql Q)) (hf : ab_fit F Lw kc ks z F' Lw' mc ms kc' ks' = true) (h8 : (rest.map fun v => v.category).sum ≤ 8) (kk : ∀ (x : Int64) (M' : ab_M), Q x M' → AW l g X Z y F Lw kc' ks' (pc + 3) L (.long x :: rest) M') : AW l g X Z y F Lw kc ks pc L (v6 :: v5 :: v4 :: v3 :: v2 :: v1 :: rest) M :=
  aw_callN (As := [v1, v2, v3, v4, v5, v6]) (rest := rest) hd hw hm hf rfl rfl h8 (fun r M' h => by
    obtain ⟨x, rfl, h⟩ := h
    exact kk x M' h)
theorem aw_N6r {i : Nat} {z : ab_Y} {F' Lw' mc ms kc' ks' : Nat} {Q : Nat → ab_M → Prop} {v1 v2 v3 v4 v5 v6 : Value} {rest : List Value} (hd : decode y.2.1 pc = .ok (.invokestatic i, 3)) (hw : ab_cN y.1.cls i z 6) (hm : AM l g z F' Lw' mc ms ([v1, v2, v3, v4, v5, v6]) M (ab_Qr Q)) (hf : ab_fit F Lw kc ks z F' Lw' mc ms kc' ks' = true) (h8 : (rest.map fun v => v.category).sum ≤ 8) (kk : ∀ (x : Nat) (M' : ab_M), Q x M' → AW l g X Z y F Lw kc' ks' (pc + 3) L (.ref x :: rest) M') : AW l g X Z y F Lw kc ks pc L (v6 :: v5 :: v4 :: v3 :: v2 :: v1 :: rest) M :=
  aw_callN (As := [v1, v2, v3, v4, v5, v6]) (rest := rest) hd hw hm hf rfl rfl h8 (fun r M' h => by
    obtain ⟨x, rfl, h⟩ := h
    exact kk x M' h)
theorem aw_N6q {i : Nat} {z : ab_Y} {F' Lw' mc ms kc' ks' : Nat} {Q : Option Nat → ab_M → Prop} {v1 v2 v3 v4 v5 v6 : Value} {rest : List Value} (hd : decode y.2.1 pc = .ok (.invokestatic i, 3)) (hw : ab_cN y.1.cls i z 6) (hm : AM l g z F' Lw' mc ms ([v1, v2, v3, v4, v5, v6]) M (ab_Qq Q)) (hf : ab_fit F Lw kc ks z F' Lw' mc ms kc' ks' = true) (h8 : (rest.map fun v => v.category).sum ≤ 8) (kk : ∀ (x : Option Nat) (M' : ab_M), Q x M' → AW l g X Z y F Lw kc' ks' (pc + 3) L (va_rf x :: rest) M') : AW l g X Z y F Lw kc ks pc L (v6 :: v5 :: v4 :: v3 :: v2 :: v1 :: rest) M :=
  aw_callN (As := [v1, v2, v3, v4, v5, v6]) (rest := rest) hd hw hm hf rfl rfl h8 (fun r M' h => by
    obtain ⟨x, rfl, h⟩ := h
    exact kk x M' h)
theorem aw_V0v {i : Nat} {z : ab_Y} {F' Lw' mc ms kc' ks' : Nat} {a : Nat} {ci : Nat} {t : Nat × Nat} {fs : List Value} {Q : ab_M → Prop} {rest : List Value} (hd : decode y.2.1 pc = .ok (.invokevirtual i, 3)) (hw : ab_cV y.1.cls i ci z 0) (hM : M a = some (t, .inr (ci, fs))) (hm : AM l g z F' Lw' mc ms (.ref a :: []) M (ab_Qv Q)) (hf : ab_fit F Lw kc ks z F' Lw' mc ms kc' ks' = true) (h8 : (rest.map fun v => v.category).sum ≤ 8) (kk : ∀ (M' : ab_M), Q M' → AW l g X Z y F Lw kc' ks' (pc + 3) L (rest) M') : AW l g X Z y F Lw kc ks pc L (.ref a :: rest) M :=
  aw_callV (As := []) (rest := rest) hd hw hM hm hf rfl rfl h8 (fun r M' h => by
    obtain ⟨rfl, h⟩ := h
    exact kk M' h)
theorem aw_V0i {i : Nat} {z : ab_Y} {F' Lw' mc ms kc' ks' : Nat} {a : Nat} {ci : Nat} {t : Nat × Nat} {fs : List Value} {Q : Int32 → ab_M → Prop} {rest : List Value} (hd : decode y.2.1 pc = .ok (.invokevirtual i, 3)) (hw : ab_cV y.1.cls i ci z 0) (hM : M a = some (t, .inr (ci, fs))) (hm : AM l g z F' Lw' mc ms (.ref a :: []) M (ab_Qi Q)) (hf : ab_fit F Lw kc ks z F' Lw' mc ms kc' ks' = true) (h8 : (rest.map fun v => v.category).sum ≤ 8) (kk : ∀ (x : Int32) (M' : ab_M), Q x M' → AW l g X Z y F Lw kc' ks' (pc + 3) L (.int x :: rest) M') : AW l g X Z y F Lw kc ks pc L (.ref a :: rest) M :=
  aw_callV (As := []) (rest := rest) hd hw hM hm hf rfl rfl h8 (fun r M' h => by
    obtain ⟨x, rfl, h⟩ := h
    exact kk x M' h)
theorem aw_V0l {i : Nat} {z : ab_Y} {F' Lw' mc ms kc' ks' : Nat} {a : Nat} {ci : Nat} {t : Nat × Nat} {fs : List Value} {Q : Int64 → ab_M → Prop} {rest : List Value} (hd : decode y.2.1 pc = .ok (.invokevirtual i, 3)) (hw : ab_cV y.1.cls i ci z 0) (hM : M a = some (t, .inr (ci, fs))) (hm : AM l g z F' Lw' mc ms (.ref a :: []) M (ab_Ql Q)) (hf : ab_fit F Lw kc ks z F' Lw' mc ms kc' ks' = true) (h8 : (rest.map fun v => v.category).sum ≤ 8) (kk : ∀ (x : Int64) (M' : ab_M), Q x M' → AW l g X Z y F Lw kc' ks' (pc + 3) L (.long x :: rest) M') : AW l g X Z y F Lw kc ks pc L (.ref a :: rest) M :=
  aw_callV (As := []) (rest := rest) hd hw hM hm hf rfl rfl h8 (fun r M' h => by
    obtain ⟨x, rfl, h⟩ := h
    exact kk x M' h)
theorem aw_V0r {i : Nat} {z : ab_Y} {F' Lw' mc ms kc' ks' : Nat} {a : Nat} {ci : Nat} {t : Nat × Nat} {fs : List Value} {Q : Nat → ab_M → Prop} {rest : List Value} (hd : decode y.2.1 pc = .ok (.invokevirtual i, 3)) (hw : ab_cV y.1.cls i ci z 0) (hM : M a = some (t, .inr (ci, fs))) (hm : AM l g z F' Lw' mc ms (.ref a :: []) M (ab_Qr Q)) (hf : ab_fit F Lw kc ks z F' Lw' mc ms kc' ks' = true) (h8 : (rest.map fun v => v.category).sum ≤ 8) (kk : ∀ (x : Nat) (M' : ab_M), Q x M' → AW l g X Z y F Lw kc' ks' (pc + 3) L (.ref x :: rest) M') : AW l g X Z y F Lw kc ks pc L (.ref a :: rest) M :=
  aw_callV (As := []) (rest := rest) hd hw hM hm hf rfl rfl h8 (fun r M' h => by
    obtain ⟨x, rfl, h⟩ := h
    exact kk x M' h)
theorem aw_V0q {i : Nat} {z : ab_Y} {F' Lw' mc ms kc' ks' : Nat} {a : Nat} {ci : Nat} {t : Nat × Nat} {fs : List Value} {Q : Option Nat → ab_M → Prop} {rest : List Value} (hd : decode y.2.1 pc = .ok (.invokevirtual i, 3)) (hw : ab_cV y.1.cls i ci z 0) (hM : M a = some (t, .inr (ci, fs))) (hm : AM l g z F' Lw' mc ms (.ref a :: []) M (ab_Qq Q)) (hf : ab_fit F Lw kc ks z F' Lw' mc ms kc' ks' = true) (h8 : (rest.map fun v => v.category).sum ≤ 8) (kk : ∀ (x : Option Nat) (M' : ab_M), Q x M' → AW l g X Z y F Lw kc' ks' (pc + 3) L (va_rf x :: rest) M') : AW l g X Z y F Lw kc ks pc L (.ref a :: rest) M :=
  aw_callV (As := []) (rest := rest) hd hw hM hm hf rfl rfl h8 (fun r M' h => by
    obtain ⟨x, rfl, h⟩ := h
    exact kk x M' h)
theorem aw_V1v {i : Nat} {z : ab_Y} {F' Lw' mc ms kc' ks' : Nat} {a : Nat} {ci : Nat} {t : Nat × Nat} {fs : List Value} {Q : ab_M → Prop} {v1 : Value} {rest : List Value} (hd : decode y.2.1 pc = .ok (.invokevirtual i, 3)) (hw : ab_cV y.1.cls i ci z 1) (hM : M a = some (t, .inr (ci, fs))) (hm : AM l g z F' Lw' mc ms (.ref a :: [v1]) M (ab_Qv Q)) (hf : ab_fit F Lw kc ks z F' Lw' mc ms kc' ks' = true) (h8 : (rest.map fun v => v.category).sum ≤ 8) (kk : ∀ (M' : ab_M), Q M' → AW l g X Z y F Lw kc' ks' (pc + 3) L (rest) M') : AW l g X Z y F Lw kc ks pc L (v1 :: .ref a :: rest) M :=
  aw_callV (As := [v1]) (rest := rest) hd hw hM hm hf rfl rfl h8 (fun r M' h => by
    obtain ⟨rfl, h⟩ := h
    exact kk M' h)
theorem aw_V1i {i : Nat} {z : ab_Y} {F' Lw' mc ms kc' ks' : Nat} {a : Nat} {ci : Nat} {t : Nat × Nat} {fs : List Value} {Q : Int32 → ab_M → Prop} {v1 : Value} {rest : List Value} (hd : decode y.2.1 pc = .ok (.invokevirtual i, 3)) (hw : ab_cV y.1.cls i ci z 1) (hM : M a = some (t, .inr (ci, fs))) (hm : AM l g z F' Lw' mc ms (.ref a :: [v1]) M (ab_Qi Q)) (hf : ab_fit F Lw kc ks z F' Lw' mc ms kc' ks' = true) (h8 : (rest.map fun v => v.category).sum ≤ 8) (kk : ∀ (x : Int32) (M' : ab_M), Q x M' → AW l g X Z y F Lw kc' ks' (pc + 3) L (.int x :: rest) M') : AW l g X Z y F Lw kc ks pc L (v1 :: .ref a :: rest) M :=
  aw_callV (As := [v1]) (rest := rest) hd hw hM hm hf rfl rfl h8 (fun r M' h => by
    obtain ⟨x, rfl, h⟩ := h
    exact kk x M' h)
theorem aw_V1l {i : Nat} {z : ab_Y} {F' Lw' mc ms kc' ks' : Nat} {a : Nat} {ci : Nat} {t : Nat × Nat} {fs : List Value} {Q : Int64 → ab_M → Prop} {v1 : Value} {rest : List Value} (hd : decode y.2.1 pc = .ok (.invokevirtual i, 3)) (hw : ab_cV y.1.cls i ci z 1) (hM : M a = some (t, .inr (ci, fs))) (hm : AM l g z F' Lw' mc ms (.ref a :: [v1]) M (ab_Ql Q)) (hf : ab_fit F Lw kc ks z F' Lw' mc ms kc' ks' = true) (h8 : (rest.map fun v => v.category).sum ≤ 8) (kk : ∀ (x : Int64) (M' : ab_M), Q x M' → AW l g X Z y F Lw kc' ks' (pc + 3) L (.long x :: rest) M') : AW l g X Z y F Lw kc ks pc L (v1 :: .ref a :: rest) M :=
  aw_callV (As := [v1]) (rest := rest) hd hw hM hm hf rfl rfl h8 (fun r M' h => by
    obtain ⟨x, rfl, h⟩ := h
    exact kk x M' h)
theorem aw_V1r {i : Nat} {z : ab_Y} {F' Lw' mc ms kc' ks' : Nat} {a : Nat} {ci : Nat} {t : Nat × Nat} {fs : List Value} {Q : Nat → ab_M → Prop} {v1 : Value} {rest : List Value} (hd : decode y.2.1 pc = .ok (.invokevirtual i, 3)) (hw : ab_cV y.1.cls i ci z 1) (hM : M a = some (t, .inr (ci, fs))) (hm : AM l g z F' Lw' mc ms (.ref a :: [v1]) M (ab_Qr Q)) (hf : ab_fit F Lw kc ks z F' Lw' mc ms kc' ks' = true) (h8 : (rest.map fun v => v.category).sum ≤ 8) (kk : ∀ (x : Nat) (M' : ab_M), Q x M' → AW l g X Z y F Lw kc' ks' (pc + 3) L (.ref x :: rest) M') : AW l g X Z y F Lw kc ks pc L (v1 :: .ref a :: rest) M :=
  aw_callV (As := [v1]) (rest := rest) hd hw hM hm hf rfl rfl h8 (fun r M' h => by
    obtain ⟨x, rfl, h⟩ := h
    exact kk x M' h)
theorem aw_V1q {i : Nat} {z : ab_Y} {F' Lw' mc ms kc' ks' : Nat} {a : Nat} {ci : Nat} {t : Nat × Nat} {fs : List Value} {Q : Option Nat → ab_M → Prop} {v1 : Value} {rest : List Value} (hd : decode y.2.1 pc = .ok (.invokevirtual i, 3)) (hw : ab_cV y.1.cls i ci z 1) (hM : M a = some (t, .inr (ci, fs))) (hm : AM l g z F' Lw' mc ms (.ref a :: [v1]) M (ab_Qq Q)) (hf : ab_fit F Lw kc ks z F' Lw' mc ms kc' ks' = true) (h8 : (rest.map fun v => v.category).sum ≤ 8) (kk : ∀ (x : Option Nat) (M' : ab_M), Q x M' → AW l g X Z y F Lw kc' ks' (pc + 3) L (va_rf x :: rest) M') : AW l g X Z y F Lw kc ks pc L (v1 :: .ref a :: rest) M :=
  aw_callV (As := [v1]) (rest := rest) hd hw hM hm hf rfl rfl h8 (fun r M' h => by
    obtain ⟨x, rfl, h⟩ := h
    exact kk x M' h)
theorem aw_V2v {i : Nat} {z : ab_Y} {F' Lw' mc ms kc' ks' : Nat} {a : Nat} {ci : Nat} {t : Nat × Nat} {fs : List Value} {Q : ab_M → Prop} {v1 v2 : Value} {rest : List Value} (hd : decode y.2.1 pc = .ok (.invokevirtual i, 3)) (hw : ab_cV y.1.cls i ci z 2) (hM : M a = some (t, .inr (ci, fs))) (hm : AM l g z F' Lw' mc ms (.ref a :: [v1, v2]) M (ab_Qv Q)) (hf : ab_fit F Lw kc ks z F' Lw' mc ms kc' ks' = true) (h8 : (rest.map fun v => v.category).sum ≤ 8) (kk : ∀ (M' : ab_M), Q M' → AW l g X Z y F Lw kc' ks' (pc + 3) L (rest) M') : AW l g X Z y F Lw kc ks pc L (v2 :: v1 :: .ref a :: rest) M :=
  aw_callV (As := [v1, v2]) (rest := rest) hd hw hM hm hf rfl rfl h8 (fun r M' h => by
    obtain ⟨rfl, h⟩ := h
    exact kk M' h)
theorem aw_V2i {i : Nat} {z : ab_Y} {F' Lw' mc ms kc' ks' : Nat} {a : Nat} {ci : Nat} {t : Nat × Nat} {fs : List Value} {Q : Int32 → ab_M → Prop} {v1 v2 : Value} {rest : List Value} (hd : decode y.2.1 pc = .ok (.invokevirtual i, 3)) (hw : ab_cV y.1.cls i ci z 2) (hM : M a = some (t, .inr (ci, fs))) (hm : AM l g z F' Lw' mc ms (.ref a :: [v1, v2]) M (ab_Qi Q)) (hf : ab_fit F Lw kc ks z F' Lw' mc ms kc' ks' = true) (h8 : (rest.map fun v => v.category).sum ≤ 8) (kk : ∀ (x : Int32) (M' : ab_M), Q x M' → AW l g X Z y F Lw kc' ks' (pc + 3) L (.int x :: rest) M') : AW l g X Z y F Lw kc ks pc L (v2 :: v1 :: .ref a :: rest) M :=
  aw_callV (As := [v1, v2]) (rest := rest) hd hw hM hm hf rfl rfl h8 (fun r M' h => by
    obtain ⟨x, rfl, h⟩ := h
    exact kk x M' h)
theorem aw_V2l {i : Nat} {z : ab_Y} {F' Lw' mc ms kc' ks' : Nat} {a : Nat} {ci : Nat} {t : Nat × Nat} {fs : List Value} {Q : Int64 → ab_M → Prop} {v1 v2 : Value} {rest : List Value} (hd : decode y.2.1 pc = .ok (.invokevirtual i, 3)) (hw : ab_cV y.1.cls i ci z 2) (hM : M a = some (t, .inr (ci, fs))) (hm : AM l g z F' Lw' mc ms (.ref a :: [v1, v2]) M (ab_Ql Q)) (hf : ab_fit F Lw kc ks z F' Lw' mc ms kc' ks' = true) (h8 : (rest.map fun v => v.category).sum ≤ 8) (kk : ∀ (x : Int64) (M' : ab_M), Q x M' → AW l g X Z y F Lw kc' ks' (pc + 3) L (.long x :: rest) M') : AW l g X Z y F Lw kc ks pc L (v2 :: v1 :: .ref a :: rest) M :=
  aw_callV (As := [v1, v2]) (rest := rest) hd hw hM hm hf rfl rfl h8 (fun r M' h => by
    obtain ⟨x, rfl, h⟩ := h
    exact kk x M' h)
theorem aw_V2r {i : Nat} {z : ab_Y} {F' Lw' mc ms kc' ks' : Nat} {a : Nat} {ci : Nat} {t : Nat × Nat} {fs : List Value} {Q : Nat → ab_M → Prop} {v1 v2 : Value} {rest : List Value} (hd : decode y.2.1 pc = .ok (.invokevirtual i, 3)) (hw : ab_cV y.1.cls i ci z 2) (hM : M a = some (t, .inr (ci, fs))) (hm : AM l g z F' Lw' mc ms (.ref a :: [v1, v2]) M (ab_Qr Q)) (hf : ab_fit F Lw kc ks z F' Lw' mc ms kc' ks' = true) (h8 : (rest.map fun v => v.category).sum ≤ 8) (kk : ∀ (x : Nat) (M' : ab_M), Q x M' → AW l g X Z y F Lw kc' ks' (pc + 3) L (.ref x :: rest) M') : AW l g X Z y F Lw kc ks pc L (v2 :: v1 :: .ref a :: rest) M :=
  aw_callV (As := [v1, v2]) (rest := rest) hd hw hM hm hf rfl rfl h8 (fun r M' h => by
    obtain ⟨x, rfl, h⟩ := h
    exact kk x M' h)
theorem aw_V2q {i : Nat} {z : ab_Y} {F' Lw' mc ms kc' ks' : Nat} {a : Nat} {ci : Nat} {t : Nat × Nat} {fs : List Value} {Q : Option Nat → ab_M → Prop} {v1 v2 : Value} {rest : List Value} (hd : decode y.2.1 pc = .ok (.invokevirtual i, 3)) (hw : ab_cV y.1.cls i ci z 2) (hM : M a = some (t, .inr (ci, fs))) (hm : AM l g z F' Lw' mc ms (.ref a :: [v1, v2]) M (ab_Qq Q)) (hf : ab_fit F Lw kc ks z F' Lw' mc ms kc' ks' = true) (h8 : (rest.map fun v => v.category).sum ≤ 8) (kk : ∀ (x : Option Nat) (M' : ab_M), Q x M' → AW l g X Z y F Lw kc' ks' (pc + 3) L (va_rf x :: rest) M') : AW l g X Z y F Lw kc ks pc L (v2 :: v1 :: .ref a :: rest) M :=
  aw_callV (As := [v1, v2]) (rest := rest) hd hw hM hm hf rfl rfl h8 (fun r M' h => by
    obtain ⟨x, rfl, h⟩ := h
    exact kk x M' h)
theorem aw_V3v {i : Nat} {z : ab_Y} {F' Lw' mc ms kc' ks' : Nat} {a : Nat} {ci : Nat} {t : Nat × Nat} {fs : List Value} {Q : ab_M → Prop} {v1 v2 v3 : Value} {rest : List Value} (hd : decode y.2.1 pc = .ok (.invokevirtual i, 3)) (hw : ab_cV y.1.cls i ci z 3) (hM : M a = some (t, .inr (ci, fs))) (hm : AM l g z F' Lw' mc ms (.ref a :: [v1, v2, v3]) M (ab_Qv Q)) (hf : ab_fit F Lw kc ks z F' Lw' mc ms kc' ks' = true) (h8 : (rest.map fun v => v.category).sum ≤ 8) (kk : ∀ (M' : ab_M), Q M' → AW l g X Z y F Lw kc' ks' (pc + 3) L (rest) M') : AW l g X Z y F Lw kc ks pc L (v3 :: v2 :: v1 :: .ref a :: rest) M :=
  aw_callV (As := [v1, v2, v3]) (rest := rest) hd hw hM hm hf rfl rfl h8 (fun r M' h => by
    obtain ⟨rfl, h⟩ := h
    exact kk M' h)
theorem aw_V3i {i : Nat} {z : ab_Y} {F' Lw' mc ms kc' ks' : Nat} {a : Nat} {ci : Nat} {t : Nat × Nat} {fs : List Value} {Q : Int32 → ab_M → Prop} {v1 v2 v3 : Value} {rest : List Value} (hd : decode y.2.1 pc = .ok (.invokevirtual i, 3)) (hw : ab_cV y.1.cls i ci z 3) (hM : M a = some (t, .inr (ci, fs))) (hm : AM l g z F' Lw' mc ms (.ref a :: [v1, v2, v3]) M (ab_Qi Q)) (hf : ab_fit F Lw kc ks z F' Lw' mc ms kc' ks' = true) (h8 : (rest.map fun v => v.category).sum ≤ 8) (kk : ∀ (x : Int32) (M' : ab_M), Q x M' → AW l g X Z y F Lw kc' ks' (pc + 3) L (.int x :: rest) M') : AW l g X Z y F Lw kc ks pc L (v3 :: v2 :: v1 :: .ref a :: rest) M :=
  aw_callV (As := [v1, v2, v3]) (rest := rest) hd hw hM hm hf rfl rfl h8 (fun r M' h => by
    obtain ⟨x, rfl, h⟩ := h
    exact kk x M' h)
theorem aw_V3l {i : Nat} {z : ab_Y} {F' Lw' mc ms kc' ks' : Nat} {a : Nat} {ci : Nat} {t : Nat × Nat} {fs : List Value} {Q : Int64 → ab_M → Prop} {v1 v2 v3 : Value} {rest : List Value} (hd : decode y.2.1 pc = .ok (.invokevirtual i, 3)) (hw : ab_cV y.1.cls i ci z 3) (hM : M a = some (t, .inr (ci, fs))) (hm : AM l g z F' Lw' mc ms (.ref a :: [v1, v2, v3]) M (ab_Ql Q)) (hf : ab_fit F Lw kc ks z F' Lw' mc ms kc' ks' = true) (h8 : (rest.map fun v => v.category).sum ≤ 8) (kk : ∀ (x : Int64) (M' : ab_M), Q x M' → AW l g X Z y F Lw kc' ks' (pc + 3) L (.long x :: rest) M') : AW l g X Z y F Lw kc ks pc L (v3 :: v2 :: v1 :: .ref a :: rest) M :=
  aw_callV (As := [v1, v2, v3]) (rest := rest) hd hw hM hm hf rfl rfl h8 (fun r M' h => by
    obtain ⟨x, rfl, h⟩ := h
    exact kk x M' h)
theorem aw_V3r {i : Nat} {z : ab_Y} {F' Lw' mc ms kc' ks' : Nat} {a : Nat} {ci : Nat} {t : Nat × Nat} {fs : List Value} {Q : Nat → ab_M → Prop} {v1 v2 v3 : Value} {rest : List Value} (hd : decode y.2.1 pc = .ok (.invokevirtual i, 3)) (hw : ab_cV y.1.cls i ci z 3) (hM : M a = some (t, .inr (ci, fs))) (hm : AM l g z F' Lw' mc ms (.ref a :: [v1, v2, v3]) M (ab_Qr Q)) (hf : ab_fit F Lw kc ks z F' Lw' mc ms kc' ks' = true) (h8 : (rest.map fun v => v.category).sum ≤ 8) (kk : ∀ (x : Nat) (M' : ab_M), Q x M' → AW l g X Z y F Lw kc' ks' (pc + 3) L (.ref x :: rest) M') : AW l g X Z y F Lw kc ks pc L (v3 :: v2 :: v1 :: .ref a :: rest) M :=
  aw_callV (As := [v1, v2, v3]) (rest := rest) hd hw hM hm hf rfl rfl h8 (fun r M' h => by
    obtain ⟨x, rfl, h⟩ := h
    exact kk x M' h)
theorem aw_V3q {i : Nat} {z : ab_Y} {F' Lw' mc ms kc' ks' : Nat} {a : Nat} {ci : Nat} {t : Nat × Nat} {fs : List Value} {Q : Option Nat → ab_M → Prop} {v1 v2 v3 : Value} {rest : List Value} (hd : decode y.2.1 pc = .ok (.invokevirtual i, 3)) (hw : ab_cV y.1.cls i ci z 3) (hM : M a = some (t, .inr (ci, fs))) (hm : AM l g z F' Lw' mc ms (.ref a :: [v1, v2, v3]) M (ab_Qq Q)) (hf : ab_fit F Lw kc ks z F' Lw' mc ms kc' ks' = true) (h8 : (rest.map fun v => v.category).sum ≤ 8) (kk : ∀ (x : Option Nat) (M' : ab_M), Q x M' → AW l g X Z y F Lw kc' ks' (pc + 3) L (va_rf x :: rest) M') : AW l g X Z y F Lw kc ks pc L (v3 :: v2 :: v1 :: .ref a :: rest) M :=
  aw_callV (As := [v1, v2, v3]) (rest := rest) hd hw hM hm hf rfl rfl h8 (fun r M' h => by
    obtain ⟨x, rfl, h⟩ := h
    exact kk x M' h)
theorem aw_V4v {i : Nat} {z : ab_Y} {F' Lw' mc ms kc' ks' : Nat} {a : Nat} {ci : Nat} {t : Nat × Nat} {fs : List Value} {Q : ab_M → Prop} {v1 v2 v3 v4 : Value} {rest : List Value} (hd : decode y.2.1 pc = .ok (.invokevirtual i, 3)) (hw : ab_cV y.1.cls i ci z 4) (hM : M a = some (t, .inr (ci, fs))) (hm : AM l g z F' Lw' mc ms (.ref a :: [v1, v2, v3, v4]) M (ab_Qv Q)) (hf : ab_fit F Lw kc ks z F' Lw' mc ms kc' ks' = true) (h8 : (rest.map fun v => v.category).sum ≤ 8) (kk : ∀ (M' : ab_M), Q M' → AW l g X Z y F Lw kc' ks' (pc + 3) L (rest) M') : AW l g X Z y F Lw kc ks pc L (v4 :: v3 :: v2 :: v1 :: .ref a :: rest) M :=
  aw_callV (As := [v1, v2, v3, v4]) (rest := rest) hd hw hM hm hf rfl rfl h8 (fun r M' h => by
    obtain ⟨rfl, h⟩ := h
    exact kk M' h)
theorem aw_V4i {i : Nat} {z : ab_Y} {F' Lw' mc ms kc' ks' : Nat} {a : Nat} {ci : Nat} {t : Nat × Nat} {fs : List Value} {Q : Int32 → ab_M → Prop} {v1 v2 v3 v4 : Value} {rest : List Value} (hd : decode y.2.1 pc = .ok (.invokevirtual i, 3)) (hw : ab_cV y.1.cls i ci z 4) (hM : M a = some (t, .inr (ci, fs))) (hm : AM l g z F' Lw' mc ms (.ref a :: [v1, v2, v3, v4]) M (ab_Qi Q)) (hf : ab_fit F Lw kc ks z F' Lw' mc ms kc' ks' = true) (h8 : (rest.map fun v => v.category).sum ≤ 8) (kk : ∀ (x : Int32) (M' : ab_M), Q x M' → AW l g X Z y F Lw kc' ks' (pc + 3) L (.int x :: rest) M') : AW l g X Z y F Lw kc ks pc L (v4 :: v3 :: v2 :: v1 :: .ref a :: rest) M :=
  aw_callV (As := [v1, v2, v3, v4]) (rest := rest) hd hw hM hm hf rfl rfl h8 (fun r M' h => by
    obtain ⟨x, rfl, h⟩ := h
    exact kk x M' h)
theorem aw_V4l {i : Nat} {z : ab_Y} {F' Lw' mc ms kc' ks' : Nat} {a : Nat} {ci : Nat} {t : Nat × Nat} {fs : List Value} {Q : Int64 → ab_M → Prop} {v1 v2 v3 v4 : Value} {rest : List Value} (hd : decode y.2.1 pc = .ok (.invokevirtual i, 3)) (hw : ab_cV y.1.cls i ci z 4) (hM : M a = some (t, .inr (ci, fs))) (hm : AM l g z F' Lw' mc ms (.ref a :: [v1, v2, v3, v4]) M (ab_Ql Q)) (hf : ab_fit F Lw kc ks z F' Lw' mc ms kc' ks' = true) (h8 : (rest.map fun v => v.category).sum ≤ 8) (kk : ∀ (x : Int64) (M' : ab_M), Q x M' → AW l g X Z y F Lw kc' ks' (pc + 3) L (.long x :: rest) M') : AW l g X Z y F Lw kc ks pc L (v4 :: v3 :: v2 :: v1 :: .ref a :: rest) M :=
  aw_callV (As := [v1, v2, v3, v4]) (rest := rest) hd hw hM hm hf rfl rfl h8 (fun r M' h => by
    obtain ⟨x, rfl, h⟩ := h
    exact kk x M' h)
theorem aw_V4r {i : Nat} {z : ab_Y} {F' Lw' mc ms kc' ks' : Nat} {a : Nat} {ci : Nat} {t : Nat × Nat} {fs : List Value} {Q : Nat → ab_M → Prop} {v1 v2 v3 v4 : Value} {rest : List Value} (hd : decode y.2.1 pc = .ok (.invokevirtual i, 3)) (hw : ab_cV y.1.cls i ci z 4) (hM : M a = some (t, .inr (ci, fs))) (hm : AM l g z F' Lw' mc ms (.ref a :: [v1, v2, v3, v4]) M (ab_Qr Q)) (hf : ab_fit F Lw kc ks z F' Lw' mc ms kc' ks' = true) (h8 : (rest.map fun v => v.category).sum ≤ 8) (kk : ∀ (x : Nat) (M' : ab_M), Q x M' → AW l g X Z y F Lw kc' ks' (pc + 3) L (.ref x :: rest) M') : AW l g X Z y F Lw kc ks pc L (v4 :: v3 :: v2 :: v1 :: .ref a :: rest) M :=
  aw_callV (As := [v1, v2, v3, v4]) (rest := rest) hd hw hM hm hf rfl rfl h8 (fun r M' h => by
    obtain ⟨x, rfl, h⟩ := h
    exact kk x M' h)
theorem aw_V4q {i : Nat} {z : ab_Y} {F' Lw' mc ms kc' ks' : Nat} {a : Nat} {ci : Nat} {t : Nat × Nat} {fs : List Value} {Q : Option Nat → ab_M → Prop} {v1 v2 v3 v4 : Value} {rest : List Value} (hd : decode y.2.1 pc = .ok (.invokevirtual i, 3)) (hw : ab_cV y.1.cls i ci z 4) (hM : M a = some (t, .inr (ci, fs))) (hm : AM l g z F' Lw' mc ms (.ref a :: [v1, v2, v3, v4]) M (ab_Qq Q)) (hf : ab_fit F Lw kc ks z F' Lw' mc ms kc' ks' = true) (h8 : (rest.map fun v => v.category).sum ≤ 8) (kk : ∀ (x : Option Nat) (M' : ab_M), Q x M' → AW l g X Z y F Lw kc' ks' (pc + 3) L (va_rf x :: rest) M') : AW l g X Z y F Lw kc ks pc L (v4 :: v3 :: v2 :: v1 :: .ref a :: rest) M :=
  aw_callV (As := [v1, v2, v3, v4]) (rest := rest) hd hw hM hm hf rfl rfl h8 (fun r M' h => by
    obtain ⟨x, rfl, h⟩ := h
    exact kk x M' h)
theorem aw_V5v {i : Nat} {z : ab_Y} {F' Lw' mc ms kc' ks' : Nat} {a : Nat} {ci : Nat} {t : Nat × Nat} {fs : List Value} {Q : ab_M → Prop} {v1 v2 v3 v4 v5 : Value} {rest : List Value} (hd : decode y.2.1 pc = .ok (.invokevirtual i, 3)) (hw : ab_cV y.1.cls i ci z 5) (hM : M a = some (t, .inr (ci, fs))) (hm : AM l g z F' Lw' mc ms (.ref a :: [v1, v2, v3, v4, v5]) M (ab_Qv Q)) (hf : ab_fit F Lw kc ks z F' Lw' mc ms kc' ks' = true) (h8 : (rest.map fun v => v.category).sum ≤ 8) (kk : ∀ (M' : ab_M), Q M' → AW l g X Z y F Lw kc' ks' (pc + 3) L (rest) M') : AW l g X Z y F Lw kc ks pc L (v5 :: v4 :: v3 :: v2 :: v1 :: .ref a :: rest) M :=
  aw_callV (As := [v1, v2, v3, v4, v5]) (rest := rest) hd hw hM hm hf rfl rfl h8 (fun r M' h => by
    obtain ⟨rfl, h⟩ := h
    exact kk M' h)
theorem aw_V5i {i : Nat} {z : ab_Y} {F' Lw' mc ms kc' ks' : Nat} {a : Nat} {ci : Nat} {t : Nat × Nat} {fs : List Value} {Q : Int32 → ab_M → Prop} {v1 v2 v3 v4 v5 : Value} {rest : List Value} (hd : decode y.2.1 pc = .ok (.invokevirtual i, 3)) (hw : ab_cV y.1.cls i ci z 5) (hM : M a = some (t, .inr (ci, fs))) (hm : AM l g z F' Lw' mc ms (.ref a :: [v1, v2, v3, v4, v5]) M (ab_Qi Q)) (hf : ab_fit F Lw kc ks z F' Lw' mc ms kc' ks' = true) (h8 : (rest.map fun v => v.category).sum ≤ 8) (kk : ∀ (x : Int32) (M' : ab_M), Q x M' → AW l g X Z y F Lw kc' ks' (pc + 3) L (.int x :: rest) M') : AW l g X Z y F Lw kc ks pc L (v5 :: v4 :: v3 :: v2 :: v1 :: .ref a :: rest) M :=
  aw_callV (As := [v1, v2, v3, v4, v5]) (rest := rest) hd hw hM hm hf rfl rfl h8 (fun r M' h => by
    obtain ⟨x, rfl, h⟩ := h
    exact kk x M' h)
theorem aw_V5l {i : Nat} {z : ab_Y} {F' Lw' mc ms kc' ks' : Nat} {a : Nat} {ci : Nat} {t : Nat × Nat} {fs : List Value} {Q : Int64 → ab_M → Prop} {v1 v2 v3 v4 v5 : Value} {rest : List Value} (hd : decode y.2.1 pc = .ok (.invokevirtual i, 3)) (hw : ab_cV y.1.cls i ci z 5) (hM : M a = some (t, .inr (ci, fs))) (hm : AM l g z F' Lw' mc ms (.ref a :: [v1, v2, v3, v4, v5]) M (ab_Ql Q)) (hf : ab_fit F Lw kc ks z F' Lw' mc ms kc' ks' = true) (h8 : (rest.map fun v => v.category).sum ≤ 8) (kk : ∀ (x : Int64) (M' : ab_M), Q x M' → AW l g X Z y F Lw kc' ks' (pc + 3) L (.long x :: rest) M') : AW l g X Z y F Lw kc ks pc L (v5 :: v4 :: v3 :: v2 :: v1 :: .ref a :: rest) M :=
  aw_callV (As := [v1, v2, v3, v4, v5]) (rest := rest) hd hw hM hm hf rfl rfl h8 (fun r M' h => by
    obtain ⟨x, rfl, h⟩ := h
    exact kk x M' h)
theorem aw_V5r {i : Nat} {z : ab_Y} {F' Lw' mc ms kc' ks' : Nat} {a : Nat} {ci : Nat} {t : Nat × Nat} {fs : List Value} {Q : Nat → ab_M → Prop} {v1 v2 v3 v4 v5 : Value} {rest : List Value} (hd : decode y.2.1 pc = .ok (.invokevirtual i, 3)) (hw : ab_cV y.1.cls i ci z 5) (hM : M a = some (t, .inr (ci, fs))) (hm : AM l g z F' Lw' mc ms (.ref a :: [v1, v2, v3, v4, v5]) M (ab_Qr Q)) (hf : ab_fit F Lw kc ks z F' Lw' mc ms kc' ks' = true) (h8 : (rest.map fun v => v.category).sum ≤ 8) (kk : ∀ (x : Nat) (M' : ab_M), Q x M' → AW l g X Z y F Lw kc' ks' (pc + 3) L (.ref x :: rest) M') : AW l g X Z y F Lw kc ks pc L (v5 :: v4 :: v3 :: v2 :: v1 :: .ref a :: rest) M :=
  aw_callV (As := [v1, v2, v3, v4, v5]) (rest := rest) hd hw hM hm hf rfl rfl h8 (fun r M' h => by
    obtain ⟨x, rfl, h⟩ := h
    exact kk x M' h)
theorem aw_V5q {i : Nat} {z : ab_Y} {F' Lw' mc ms kc' ks' : Nat} {a : Nat} {ci : Nat} {t : Nat × Nat} {fs : List Value} {Q : Option Nat → ab_M → Prop} {v1 v2 v3 v4 v5 : Value} {rest : List Value} (hd : decode y.2.1 pc = .ok (.invokevirtual i, 3)) (hw : ab_cV y.1.cls i ci z 5) (hM : M a = some (t, .inr (ci, fs))) (hm : AM l g z F' Lw' mc ms (.ref a :: [v1, v2, v3, v4, v5]) M (ab_Qq Q)) (hf : ab_fit F Lw kc ks z F' Lw' mc ms kc' ks' = true) (h8 : (rest.map fun v => v.category).sum ≤ 8) (kk : ∀ (x : Option Nat) (M' : ab_M), Q x M' → AW l g X Z y F Lw kc' ks' (pc + 3) L (va_rf x :: rest) M') : AW l g X Z y F Lw kc ks pc L (v5 :: v4 :: v3 :: v2 :: v1 :: .ref a :: rest) M :=
  aw_callV (As := [v1, v2, v3, v4, v5]) (rest := rest) hd hw hM hm hf rfl rfl h8 (fun r M' h => by
    obtain ⟨x, rfl, h⟩ := h
    exact kk x M' h)
theorem aw_V6v {i : Nat} {z : ab_Y} {F' Lw' mc ms kc' ks' : Nat} {a : Nat} {ci : Nat} {t : Nat × Nat} {fs : List Value} {Q : ab_M → Prop} {v1 v2 v3 v4 v5 v6 : Value} {rest : List Value} (hd : decode y.2.1 pc = .ok (.invokevirtual i, 3)) (hw : ab_cV y.1.cls i ci z 6) (hM : M a = some (t, .inr (ci, fs))) (hm : AM l g z F' Lw' mc ms (.ref a :: [v1, v2, v3, v4, v5, v6]) M (ab_Qv Q)) (hf : ab_fit F Lw kc ks z F' Lw' mc ms kc' ks' = true) (h8 : (rest.map fun v => v.category).sum ≤ 8) (kk : ∀ (M' : ab_M), Q M' → AW l g X Z y F Lw kc' ks' (pc + 3) L (rest) M') : AW l g X Z y F Lw kc ks pc L (v6 :: v5 :: v4 :: v3 :: v2 :: v1 :: .ref a :: rest) M :=
  aw_callV (As := [v1, v2, v3, v4, v5, v6]) (rest := rest) hd hw hM hm hf rfl rfl h8 (fun r M' h => by
    obtain ⟨rfl, h⟩ := h
    exact kk M' h)
theorem aw_V6i {i : Nat} {z : ab_Y} {F' Lw' mc ms kc' ks' : Nat} {a : Nat} {ci : Nat} {t : Nat × Nat} {fs : List Value} {Q : Int32 → ab_M → Prop} {v1 v2 v3 v4 v5 v6 : Value} {rest : List Value} (hd : decode y.2.1 pc = .ok (.invokevirtual i, 3)) (hw : ab_cV y.1.cls i ci z 6) (hM : M a = some (t, .inr (ci, fs))) (hm : AM l g z F' Lw' mc ms (.ref a :: [v1, v2, v3, v4, v5, v6]) M (ab_Qi Q)) (hf : ab_fit F Lw kc ks z F' Lw' mc ms kc' ks' = true) (h8 : (rest.map fun v => v.category).sum ≤ 8) (kk : ∀ (x : Int32) (M' : ab_M), Q x M' → AW l g X Z y F Lw kc' ks' (pc + 3) L (.int x :: rest) M') : AW l g X Z y F Lw kc ks pc L (v6 :: v5 :: v4 :: v3 :: v2 :: v1 :: .ref a :: rest) M :=
  aw_callV (As := [v1, v2, v3, v4, v5, v6]) (rest := rest) hd hw hM hm hf rfl rfl h8 (fun r M' h => by
    obtain ⟨x, rfl, h⟩ := h
    exact kk x M' h)
theorem aw_V6l {i : Nat} {z : ab_Y} {F' Lw' mc ms kc' ks' : Nat} {a : Nat} {ci : Nat} {t : Nat × Nat} {fs : List Value} {Q : Int64 → ab_M → Prop} {v1 v2 v3 v4 v5 v6 : Value} {rest : List Value} (hd : decode y.2.1 pc = .ok (.invokevirtual i, 3)) (hw : ab_cV y.1.cls i ci z 6) (hM : M a = some (t, .inr (ci, fs))) (hm : AM l g z F' Lw' mc ms (.ref a :: [v1, v2, v3, v4, v5, v6]) M (ab_Ql Q)) (hf : ab_fit F Lw kc ks z F' Lw' mc ms kc' ks' = true) (h8 : (rest.map fun v => v.category).sum ≤ 8) (kk : ∀ (x : Int64) (M' : ab_M), Q x M' → AW l g X Z y F Lw kc' ks' (pc + 3) L (.long x :: rest) M') : AW l g X Z y F Lw kc ks pc L (v6 :: v5 :: v4 :: v3 :: v2 :: v1 :: .ref a :: rest) M :=
  aw_callV (As := [v1, v2, v3, v4, v5, v6]) (rest := rest) hd hw hM hm hf rfl rfl h8 (fun r M' h => by
    obtain ⟨x, rfl, h⟩ := h
    exact kk x M' h)
theorem aw_V6r {i : Nat} {z : ab_Y} {F' Lw' mc ms kc' ks' : Nat} {a : Nat} {ci : Nat} {t : Nat × Nat} {fs : List Value} {Q : Nat → ab_M → Prop} {v1 v2 v3 v4 v5 v6 : Value} {rest : List Value} (hd : decode y.2.1 pc = .ok (.invokevirtual i, 3)) (hw : ab_cV y.1.cls i ci z 6) (hM : M a = some (t, .inr (ci, fs))) (hm : AM l g z F' Lw' mc ms (.ref a :: [v1, v2, v3, v4, v5, v6]) M (ab_Qr Q)) (hf : ab_fit F Lw kc ks z F' Lw' mc ms kc' ks' = true) (h8 : (rest.map fun v => v.category).sum ≤ 8) (kk : ∀ (x : Nat) (M' : ab_M), Q x M' → AW l g X Z y F Lw kc' ks' (pc + 3) L (.ref x :: rest) M') : AW l g X Z y F Lw kc ks pc L (v6 :: v5 :: v4 :: v3 :: v2 :: v1 :: .ref a :: rest) M :=
  aw_callV (As := [v1, v2, v3, v4, v5, v6]) (rest := rest) hd hw hM hm hf rfl rfl h8 (fun r M' h => by
    obtain ⟨x, rfl, h⟩ := h
    exact kk x M' h)
theorem aw_V6q {i : Nat} {z : ab_Y} {F' Lw' mc ms kc' ks' : Nat} {a : Nat} {ci : Nat} {t : Nat × Nat} {fs : List Value} {Q : Option Nat → ab_M → Prop} {v1 v2 v3 v4 v5 v6 : Value} {rest : List Value} (hd : decode y.2.1 pc = .ok (.invokevirtual i, 3)) (hw : ab_cV y.1.cls i ci z 6) (hM : M a = some (t, .inr (ci, fs))) (hm : AM l g z F' Lw' mc ms (.ref a :: [v1, v2, v3, v4, v5, v6]) M (ab_Qq Q)) (hf : ab_fit F Lw kc ks z F' Lw' mc ms kc' ks' = true) (h8 : (rest.map fun v => v.category).sum ≤ 8) (kk : ∀ (x : Option Nat) (M' : ab_M), Q x M' → AW l g X Z y F Lw kc' ks' (pc + 3) L (va_rf x :: rest) M') : AW l g X Z y F Lw kc ks pc L (v6 :: v5 :: v4 :: v3 :: v2 :: v1 :: .ref a :: rest) M :=
  aw_callV (As := [v1, v2, v3, v4, v5, v6]) (rest := rest) hd hw hM hm hf rfl rfl h8 (fun r M' h => by
    obtain ⟨x, rfl, h⟩ := h
    exact kk x M' h)
theorem aw_I0v {i : Nat} {z : ab_Y} {F' Lw' mc ms kc' ks' : Nat} {a : Nat} {Q : ab_M → Prop} {rest : List Value} (hd : decode y.2.1 pc = .ok (.invokespecial i, 3)) (hw : ab_cI y.1.cls i z 0) (hm : AM l g z F' Lw' mc ms (.ref a :: []) M (ab_Qv Q)) (hf : ab_fit F Lw kc ks z F' Lw' mc ms kc' ks' = true) (h8 : (rest.map fun v => v.category).sum ≤ 8) (kk : ∀ (M' : ab_M), Q M' → AW l g X Z y F Lw kc' ks' (pc + 3) L (rest) M') : AW l g X Z y F Lw kc ks pc L (.ref a :: rest) M :=
  aw_callI (As := []) (rest := rest) hd hw hm hf rfl rfl h8 (fun r M' h => by
    obtain ⟨rfl, h⟩ := h
    exact kk M' h)
theorem aw_I1v {i : Nat} {z : ab_Y} {F' Lw' mc ms kc' ks' : Nat} {a : Nat} {Q : ab_M → Prop} {v1 : Value} {rest : List Value} (hd : decode y.2.1 pc = .ok (.invokespecial i, 3)) (hw : ab_cI y.1.cls i z 1) (hm : AM l g z F' Lw' mc ms (.ref a :: [v1]) M (ab_Qv Q)) (hf : ab_fit F Lw kc ks z F' Lw' mc ms kc' ks' = true) (h8 : (rest.map fun v => v.category).sum ≤ 8) (kk : ∀ (M' : ab_M), Q M' → AW l g X Z y F Lw kc' ks' (pc + 3) L (rest) M') : AW l g X Z y F Lw kc ks pc L (v1 :: .ref a :: rest) M :=
  aw_callI (As := [v1]) (rest := rest) hd hw hm hf rfl rfl h8 (fun r M' h => by
    obtain ⟨rfl, h⟩ := h
    exact kk M' h)
theorem aw_I2v {i : Nat} {z : ab_Y} {F' Lw' mc ms kc' ks' : Nat} {a : Nat} {Q : ab_M → Prop} {v1 v2 : Value} {rest : List Value} (hd : decode y.2.1 pc = .ok (.invokespecial i, 3)) (hw : ab_cI y.1.cls i z 2) (hm : AM l g z F' Lw' mc ms (.ref a :: [v1, v2]) M (ab_Qv Q)) (hf : ab_fit F Lw kc ks z F' Lw' mc ms kc' ks' = true) (h8 : (rest.map fun v => v.category).sum ≤ 8) (kk : ∀ (M' : ab_M), Q M' → AW l g X Z y F Lw kc' ks' (pc + 3) L (rest) M') : AW l g X Z y F Lw kc ks pc L (v2 :: v1 :: .ref a :: rest) M :=
  aw_callI (As := [v1, v2]) (rest := rest) hd hw hm hf rfl rfl h8 (fun r M' h => by
    obtain ⟨rfl, h⟩ := h
    exact kk M' h)
theorem aw_I3v {i : Nat} {z : ab_Y} {F' Lw' mc ms kc' ks' : Nat} {a : Nat} {Q : ab_M → Prop} {v1 v2 v3 : Value} {rest : List Value} (hd : decode y.2.1 pc = .ok (.invokespecial i, 3)) (hw : ab_cI y.1.cls i z 3) (hm : AM l g z F' Lw' mc ms (.ref a :: [v1, v2, v3]) M (ab_Qv Q)) (hf : ab_fit F Lw kc ks z F' Lw' mc ms kc' ks' = true) (h8 : (rest.map fun v => v.category).sum ≤ 8) (kk : ∀ (M' : ab_M), Q M' → AW l g X Z y F Lw kc' ks' (pc + 3) L (rest) M') : AW l g X Z y F Lw kc ks pc L (v3 :: v2 :: v1 :: .ref a :: rest) M :=
  aw_callI (As := [v1, v2, v3]) (rest := rest) hd hw hm hf rfl rfl h8 (fun r M' h => by
    obtain ⟨rfl, h⟩ := h
    exact kk M' h)
theorem aw_I4v {i : Nat} {z : ab_Y} {F' Lw' mc ms kc' ks' : Nat} {a : Nat} {Q : ab_M → Prop} {v1 v2 v3 v4 : Value} {rest : List Value} (hd : decode y.2.1 pc = .ok (.invokespecial i, 3)) (hw : ab_cI y.1.cls i z 4) (hm : AM l g z F' Lw' mc ms (.ref a :: [v1, v2, v3, v4]) M (ab_Qv Q)) (hf : ab_fit F Lw kc ks z F' Lw' mc ms kc' ks' = true) (h8 : (rest.map fun v => v.category).sum ≤ 8) (kk : ∀ (M' : ab_M), Q M' → AW l g X Z y F Lw kc' ks' (pc + 3) L (rest) M') : AW l g X Z y F Lw kc ks pc L (v4 :: v3 :: v2 :: v1 :: .ref a :: rest) M :=
  aw_callI (As := [v1, v2, v3, v4]) (rest := rest) hd hw hm hf rfl rfl h8 (fun r M' h => by
    obtain ⟨rfl, h⟩ := h
    exact kk M' h)
theorem aw_J0v {i : Nat} {z : ab_Y} {F' Lw' mc ms kc' ks' : Nat} {a : Nat} {Q : ab_M → Prop} {rest : List Value} (hd : decode y.2.1 pc = .ok (.invokespecial i, 3)) (hw : ab_cJ y.1.cls i z 0) (hm : AM l g z F' Lw' mc ms (.ref a :: []) M (ab_Qv Q)) (hf : ab_fit F Lw kc ks z F' Lw' mc ms kc' ks' = true) (h8 : (rest.map fun v => v.category).sum ≤ 8) (kk : ∀ (M' : ab_M), Q M' → AW l g X Z y F Lw kc' ks' (pc + 3) L (rest) M') : AW l g X Z y F Lw kc ks pc L (.ref a :: rest) M :=
  aw_callJ (As := []) (rest := rest) hd hw hm hf rfl rfl h8 (fun r M' h => by
    obtain ⟨rfl, h⟩ := h
    exact kk M' h)
theorem aw_J1v {i : Nat} {z : ab_Y} {F' Lw' mc ms kc' ks' : Nat} {a : Nat} {Q : ab_M → Prop} {v1 : Value} {rest : List Value} (hd : decode y.2.1 pc = .ok (.invokespecial i, 3)) (hw : ab_cJ y.1.cls i z 1) (hm : AM l g z F' Lw' mc ms (.ref a :: [v1]) M (ab_Qv Q)) (hf : ab_fit F Lw kc ks z F' Lw' mc ms kc' ks' = true) (h8 : (rest.map fun v => v.category).sum ≤ 8) (kk : ∀ (M' : ab_M), Q M' → AW l g X Z y F Lw kc' ks' (pc + 3) L (rest) M') : AW l g X Z y F Lw kc ks pc L (v1 :: .ref a :: rest) M :=
  aw_callJ (As := [v1]) (rest := rest) hd hw hm hf rfl rfl h8 (fun r M' h => by
    obtain ⟨rfl, h⟩ := h
    exact kk M' h)
theorem aw_J2v {i : Nat} {z : ab_Y} {F' Lw' mc ms kc' ks' : Nat} {a : Nat} {Q : ab_M → Prop} {v1 v2 : Value} {rest : List Value} (hd : decode y.2.1 pc = .ok (.invokespecial i, 3)) (hw : ab_cJ y.1.cls i z 2) (hm : AM l g z F' Lw' mc ms (.ref a :: [v1, v2]) M (ab_Qv Q)) (hf : ab_fit F Lw kc ks z F' Lw' mc ms kc' ks' = true) (h8 : (rest.map fun v => v.category).sum ≤ 8) (kk : ∀ (M' : ab_M), Q M' → AW l g X Z y F Lw kc' ks' (pc + 3) L (rest) M') : AW l g X Z y F Lw kc ks pc L (v2 :: v1 :: .ref a :: rest) M :=
  aw_callJ (As := [v1, v2]) (rest := rest) hd hw hm hf rfl rfl h8 (fun r M' h => by
    obtain ⟨rfl, h⟩ := h
    exact kk M' h)
theorem aw_J3v {i : Nat} {z : ab_Y} {F' Lw' mc ms kc' ks' : Nat} {a : Nat} {Q : ab_M → Prop} {v1 v2 v3 : Value} {rest : List Value} (hd : decode y.2.1 pc = .ok (.invokespecial i, 3)) (hw : ab_cJ y.1.cls i z 3) (hm : AM l g z F' Lw' mc ms (.ref a :: [v1, v2, v3]) M (ab_Qv Q)) (hf : ab_fit F Lw kc ks z F' Lw' mc ms kc' ks' = true) (h8 : (rest.map fun v => v.category).sum ≤ 8) (kk : ∀ (M' : ab_M), Q M' → AW l g X Z y F Lw kc' ks' (pc + 3) L (rest) M') : AW l g X Z y F Lw kc ks pc L (v3 :: v2 :: v1 :: .ref a :: rest) M :=
  aw_callJ (As := [v1, v2, v3]) (rest := rest) hd hw hm hf rfl rfl h8 (fun r M' h => by
    obtain ⟨rfl, h⟩ := h
    exact kk M' h)
theorem aw_J4v {i : Nat} {z : ab_Y} {F' Lw' mc ms kc' ks' : Nat} {a : Nat} {Q : ab_M → Prop} {v1 v2 v3 v4 : Value} {rest : List Value} (hd : decode y.2.1 pc = .ok (.invokespecial i, 3)) (hw : ab_cJ y.1.cls i z 4) (hm : AM l g z F' Lw' mc ms (.ref a :: [v1, v2, v3, v4]) M (ab_Qv Q)) (hf : ab_fit F Lw kc ks z F' Lw' mc ms kc' ks' = true) (h8 : (rest.map fun v => v.category).sum ≤ 8) (kk : ∀ (M' : ab_M), Q M' → AW l g X Z y F Lw kc' ks' (pc + 3) L (rest) M') : AW l g X Z y F Lw kc ks pc L (v4 :: v3 :: v2 :: v1 :: .ref a :: rest) M :=
  aw_callJ (As := [v1, v2, v3, v4]) (rest := rest) hd hw hm hf rfl rfl h8 (fun r M' h => by
    obtain ⟨rfl, h⟩ := h
    exact kk M' h)
end AB3
