
/-! ===== static facts: classes, fields, calls ===== -/
def ab_cl (ci : Nat) (C : String) (T : u_T) (N : Nat) (ty0 : Nat → FieldType) : Prop := vwCl[ci]? = some (C, T, N) ∧ (∀ w ∈ u_ws C T N, w ∈ ab_T) ∧ (∀ k, k < N → parseFieldDescriptor (T k).2.2.1 = some (ty0 k)) ∧ ∀ a, a < N → ∀ b, b < N → a ≠ b → (T a).2.1 ≠ (T b).2.1
/-- the field link 'i' of the class 'own' is slot k of the class number ci, of type ty; fin: it is final -/
def ab_fl (own : String) (i ci k : Nat) (ty : FieldType) (fin : Bool) : Prop := ∃ (C : String) (T : u_T) (N : Nat) (ty0 : Nat → FieldType) (ref : String), ab_cl ci C T N ty0 ∧ k < N ∧ parseFieldDescriptor (T k).2.2.1 = some ty ∧ (T k).2.2.2 = fin ∧ (fin = true → (T k).1 = own) ∧ Cond.fieldLink own i ref (T k).2.1 (T k).2.2.1 ∈ ab_T ∧ (ref = (T k).1 ∨ Cond.sameField ref (T k).1 (T k).2.1 (T k).2.2.1 ∈ ab_T)
def ab_fg (own : String) (i ci k : Nat) : Prop := ∃ (C : String) (T : u_T) (N : Nat) (ty0 : Nat → FieldType) (ref : String), ab_cl ci C T N ty0 ∧ k < N ∧ Cond.fieldLink own i ref (T k).2.1 (T k).2.2.1 ∈ ab_T ∧ (ref = (T k).1 ∨ Cond.sameField ref (T k).1 (T k).2.1 (T k).2.2.1 ∈ ab_T)
def ab_pm (z : ab_Y) (n : Nat) : Prop := (z.1.cls ≠ "java/lang/invoke/MethodHandle" ∧ z.1.cls ≠ "java/lang/invoke/VarHandle") ∧ (parseMethodDescriptor z.1.desc).map (fun d => d.parameters.length) = some n ∧ Cond.code z.1 z.2.1 z.2.2.1 z.2.2.2 ∈ ab_T ∧ Cond.initialized z.1.cls ∈ ab_T
def ab_cS (own : String) (i : Nat) (z : ab_Y) (n : Nat) : Prop := ab_pm z n ∧ Cond.methodLink own i z.1 ∈ ab_T ∧ Cond.static z.1 ∈ ab_T
def ab_cN (own : String) (i : Nat) (z : ab_Y) (n : Nat) : Prop := ab_pm z n ∧ (∃ host, Cond.methodLinkNest own i z.1 host ∈ ab_nest) ∧ Cond.static z.1 ∈ ab_T
def ab_cI (own : String) (i : Nat) (z : ab_Y) (n : Nat) : Prop := ab_pm z n ∧ Cond.methodLink own i z.1 ∈ ab_T ∧ Cond.instanceMethod z.1 ∈ ab_T ∧ z.1.name = "<init>" ∧ z.2.2.2 = none
def ab_cJ (own : String) (i : Nat) (z : ab_Y) (n : Nat) : Prop := ab_pm z n ∧ (∃ host, Cond.methodLinkNest own i z.1 host ∈ ab_nest) ∧ Cond.instanceMethod z.1 ∈ ab_T ∧ z.1.name = "<init>" ∧ z.2.2.2 = none
/-- a virtual call on an object of the class number ci -/
def ab_cV (own : String) (i ci : Nat) (z : ab_Y) (n : Nat) : Prop := ab_pm z n ∧ ∃ (C : String) (T : u_T) (N : Nat), vwCl[ci]? = some (C, T, N) ∧ ((C = z.1.cls ∧ Cond.methodLink own i z.1 ∈ ab_T ∧ Cond.instanceMethod z.1 ∈ ab_T ∧ Cond.selects C z.1 z.1 ∈ ab_T) ∨
  (∃ (x : MethodName) (owner : String) (b0 : ByteArray) (m0 : Nat) (r0 : Option FieldType), (owner ≠ "java/lang/invoke/MethodHandle" ∧ owner ≠ "java/lang/invoke/VarHandle") ∧ (parseMethodDescriptor x.desc).map (fun d => d.parameters.length) = some n ∧ Cond.methodLink own i x ∈ ab_T ∧ Cond.sameMethod x.cls owner x.name x.desc ∈ ab_T ∧ Cond.instanceMethod ⟨owner, x.name, x.desc⟩ ∈ ab_T ∧ Cond.code ⟨owner, x.name, x.desc⟩ b0 m0 r0 ∈ ab_T ∧ Cond.selects C x z.1 ∈ ab_T ∧ Cond.instanceMethod z.1 ∈ ab_T))
theorem ab_len {ds : String} {n : Nat} (h : (parseMethodDescriptor ds).map (fun d => d.parameters.length) = some n) : ∀ sig, parseMethodDescriptor ds = some sig → n = sig.parameters.length := by
  intro sig hs
  rw [hs] at h
  exact (Option.some.inj h).symm
theorem ab_pay {args : Array Value} {s : State} {z : ab_Y} {n : Nat} (hts : ∀ w ∈ ab_T, w.before args s = true) (h : ab_pm z n) : ∀ w ∈ ab_ws z, ∀ (a' : Array Value) (U : State), s.WarmedH U.vm → w.before a' U = true := by
  intro w hw a' U hW
  rcases List.mem_cons.mp hw with rfl | hw
  · exact word_at hW (ab_T_good h.2.2.1) (hts _ h.2.2.1)
  · exact word_at hW (ab_T_good hw) (hts _ hw)
theorem ab_blind {g : ab_G} {vs : List Value} {M : ab_M} : FrameBlind (va_Pc vs (ab_P g M)) := by
  intro a U f mk q
  obtain ⟨q0, qE, qB, qR⟩ := q
  obtain ⟨k1, k2, k3, k4, k5, k6⟩ := qE
  have hal : U.vm.Alike (U.calling f mk a).vm := Vm.Alike.refl U.vm
  exact ⟨q0, ⟨va_K.moved hal k1, fun w hw => by
    have h2 := (List.mem_filter.mp hw).2
    have h3 := k2 w hw
    cases w <;> first | exact va_Nw.same rfl rfl h3 | (simp [ab_isN] at h2; done), k3.moved hal, fun C hC => (k4 C hC).moved hal, k5.moved hal, k6.moved hal⟩, qB, qR⟩
section AB2
variable {l : Launch} {g : ab_G} {X : State → Array Value → Prop} {Z : List Frame → Array Value → State → Room → State → Prop} {y : ab_Y} {F Lw kc ks : Nat} {pc : Nat} {L : List (Option Value)} {st : List Value} {M : ab_M}
/-- a write into a cell that stands -/
theorem ab_R_put {H : Heap} {ws : va_W} {k a : Nat} {t : Nat × Nat} {e0 e : va_E} {H1 : Heap} (hP : va_P (ab_D g) vwCl (ws.set k (a, e)) H1) (hD : va_D (ab_A g) (ws.set k (a, e))) (hk : ws[k]? = some (a, e0)) (hM : ∀ (a : Nat) (t : Nat × Nat) (e : va_E), M a = some (t, e) → ∃ k : Nat, ws[k]? = some (a, e)) (hD0 : va_D (ab_A g) ws) : ab_R g (ab_set M a t e) H1 := by
  have hlt := (List.getElem?_eq_some_iff.mp hk).1
  refine ⟨_, hP, hD, fun b t2 e2 h => ?_⟩
  by_cases hb : b = a
  · subst hb
    rw [ab_set_self] at h
    cases h
    exact ⟨k, List.getElem?_set_self hlt⟩
  · rw [ab_set_ne hb] at h
    obtain ⟨j, hj⟩ := hM b t2 e2 h
    refine ⟨j, ?_⟩
    rw [List.getElem?_set_ne]
    · exact hj
    · intro h2
      subst h2
      rw [hk] at hj
      cases hj
      exact hb rfl
theorem ab_R_new {ws : va_W} {q : Nat} {t : Nat × Nat} {e : va_E} {H1 : Heap} (hP : va_P (ab_D g) vwCl (ws ++ [(q, e)]) H1) (hD : va_D (ab_A g) (ws ++ [(q, e)])) (hM : ∀ (a : Nat) (t : Nat × Nat) (e : va_E), M a = some (t, e) → ∃ k : Nat, ws[k]? = some (a, e)) : M q = none ∧ ab_R g (ab_set M q t e) H1 := by
  have hq : ∀ (k : Nat) (e2 : va_E), ¬ ws[k]? = some (q, e2) := by
    intro k e2 hk
    have hlt := (List.getElem?_eq_some_iff.mp hk).1
    have h1 : (ws ++ [(q, e)])[k]? = some (q, e2) := by rw [List.getElem?_append_left hlt]; exact hk
    have h2 : (ws ++ [(q, e)])[ws.length]? = some (q, e) := by simp
    have := hD.1 k ws.length _ _ h1 h2 rfl
    omega
  refine ⟨?_, _, hP, hD, fun b t2 e2 h => ?_⟩
  · cases hz : M q with
    | none => rfl
    | some z =>
      obtain ⟨k, hk⟩ := hM q z.1 z.2 hz
      exact absurd hk (hq k z.2)
  · by_cases hb : b = q
    · subst hb
      rw [ab_set_self] at h
      cases h
      exact ⟨ws.length, by simp⟩
    · rw [ab_set_ne hb] at h
      obtain ⟨j, hj⟩ := hM b t2 e2 h
      exact ⟨j, by rw [List.getElem?_append_left (List.getElem?_eq_some_iff.mp hj).1]; exact hj⟩
theorem aw_get {i ci k a : Nat} {t : Nat × Nat} {fs : List Value} {v : Value} (hd : decode y.2.1 pc = .ok (.getfield i, 3)) (hf : ab_fg y.1.cls i ci k) (hM : M a = some (t, .inr (ci, fs))) (hv : fs[k]? = some v)
    (kk : AW l g X Z y F Lw kc ks (pc + 3) L (v :: st) M) : AW l g X Z y F Lw kc ks pc L (.ref a :: st) M := by
  intro p e R s m args below meth c H locs cells slots ls C c1 c2 hS hR hl
  obtain ⟨ws, hP, hD, hW⟩ := id hR
  obtain ⟨kw, hk⟩ := hW a t _ hM
  obtain ⟨C0, T, N, ty0, ref, ⟨hc, hin, -, -⟩, hkN, hlink, hsame⟩ := hf
  obtain ⟨hx, hb, hml, hown, hts, -, -, -, -, -, -, hE, -⟩ := id C
  refine va_get (D := ab_D g) (tys := ab_tys g) hx hb hts hin hown hE.1 hP kw hk hc k hkN (hts _ hlink) ?_ hv hd (kk p e R s m args below meth c H locs cells slots ls C c1 c2 hS hR hl)
  rcases hsame with h | h
  · exact fun x h9 => by rw [h]; exact h9
  · exact fun x h9 => u_same (hts _ h) x h9
theorem aw_put {i ci k a : Nat} {t : Nat × Nat} {ty : FieldType} {fs : List Value} {v : Value} (hd : decode y.2.1 pc = .ok (.putfield i, 3)) (hf : ab_fl y.1.cls i ci k ty false) (hM : M a = some (t, .inr (ci, fs))) (hn : narrow ty v = v) (hfit : fits ty v = true) (hlen : k < fs.length)
    (kk : AW l g X Z y F Lw kc ks (pc + 3) L st (ab_set M a t (.inr (ci, fs.set k v)))) : AW l g X Z y F Lw kc ks pc L (v :: .ref a :: st) M := by
  intro p e R s m args below meth c H locs cells slots ls C c1 c2 hS hR hl
  obtain ⟨ws, hP, hD, hW⟩ := id hR
  obtain ⟨kw, hk⟩ := hW a t _ hM
  obtain ⟨C0, T, N, ty0, ref, ⟨hc, hin, hty, hnm⟩, hkN, hpd, hfin, -, hlink, hsame⟩ := hf
  obtain ⟨hx, hb, hml, hown, hts, -, -, -, -, -, -, hE, -⟩ := id C
  refine va_put (D := ab_D g) (tys := ab_tys g) hx hb hts hin ty0 hty hnm hown hE.1 hP hD hS kw hk hc k hkN (hts _ hlink) ?_ hfin hpd hn hfit hlen hd (fun H1 locs1 hP1 hD1 hS1 => kk p e R s m args below meth c H1 locs1 cells slots ls C c1 c2 hS1 (ab_R_put (H := H) hP1 hD1 hk hW hD) hl)
  rcases hsame with h | h
  · exact fun x h9 => by rw [h]; exact h9
  · exact fun x h9 => u_same (hts _ h) x h9
theorem aw_putF {i ci k a : Nat} {t : Nat × Nat} {ty : FieldType} {fs : List Value} {v : Value} (hd : decode y.2.1 pc = .ok (.putfield i, 3)) (hf : ab_fl y.1.cls i ci k ty true) (hin2 : y.1.name = "<init>") (hM : M a = some (t, .inr (ci, fs))) (hn : narrow ty v = v) (hfit : fits ty v = true) (hlen : k < fs.length)
    (kk : AW l g X Z y F Lw kc ks (pc + 3) L st (ab_set M a t (.inr (ci, fs.set k v)))) : AW l g X Z y F Lw kc ks pc L (v :: .ref a :: st) M := by
  intro p e R s m args below meth c H locs cells slots ls C c1 c2 hS hR hl
  obtain ⟨ws, hP, hD, hW⟩ := id hR
  obtain ⟨kw, hk⟩ := hW a t _ hM
  obtain ⟨C0, T, N, ty0, ref, ⟨hc, hin, hty, hnm⟩, hkN, hpd, hfin, hown1, hlink, hsame⟩ := hf
  obtain ⟨hx, hb, hml, hown, hts, -, -, hnm2, -, -, -, hE, -⟩ := id C
  refine va_putF (D := ab_D g) (tys := ab_tys g) hx hb hts hin ty0 hty hnm hown hE.1 hP hD hS kw hk hc k hkN (hts _ hlink) ?_ hfin (hnm2.trans hin2) (hown1 rfl) hpd hn hfit hlen hd (fun H1 locs1 hP1 hD1 hS1 => kk p e R s m args below meth c H1 locs1 cells slots ls C c1 c2 hS1 (ab_R_put (H := H) hP1 hD1 hk hW hD) hl)
  rcases hsame with h | h
  · exact fun x h9 => by rw [h]; exact h9
  · exact fun x h9 => u_same (hts _ h) x h9

theorem aw_iald {a n : Nat} {t : Nat × Nat} {f : Nat → Int32} {i : Int32} (hd : decode y.2.1 pc = .ok (.iaload, 1)) (hM : M a = some (t, ab_ai g n f)) (hin : vp_in i n) (kk : AW l g X Z y F Lw kc ks (pc + 1) L (.int (f i.toNatClampNeg) :: st) M) : AW l g X Z y F Lw kc ks pc L (.int i :: .ref a :: st) M := by
  intro p e R s m args below meth c H locs cells slots ls C c1 c2 hS hR hl
  obtain ⟨ws, hP, hD, hW⟩ := id hR
  obtain ⟨kw, hk⟩ := hW a t _ hM
  exact va_iald (D := ab_D g) (tys := ab_tys g) C.1 C.2.1 C.2.2.2.2.2.2.2.2.2.2.2.1.1 hP kw 0 hk rfl hin hd (kk p e R s m args below meth c H locs cells slots ls C c1 c2 hS hR hl)
theorem aw_zald {a n : Nat} {t : Nat × Nat} {f : Nat → Int32} {i : Int32} (hd : decode y.2.1 pc = .ok (.baload, 1)) (hM : M a = some (t, ab_az g n f)) (hin : vp_in i n) (kk : AW l g X Z y F Lw kc ks (pc + 1) L (.int (f i.toNatClampNeg) :: st) M) : AW l g X Z y F Lw kc ks pc L (.int i :: .ref a :: st) M := by
  intro p e R s m args below meth c H locs cells slots ls C c1 c2 hS hR hl
  obtain ⟨ws, hP, hD, hW⟩ := id hR
  obtain ⟨kw, hk⟩ := hW a t _ hM
  exact va_zald (D := ab_D g) (tys := ab_tys g) C.1 C.2.1 C.2.2.2.2.2.2.2.2.2.2.2.1.1 hP kw 2 hk rfl hin hd (kk p e R s m args below meth c H locs cells slots ls C c1 c2 hS hR hl)
theorem aw_lald {a n : Nat} {t : Nat × Nat} {f : Nat → Int64} {i : Int32} (hd : decode y.2.1 pc = .ok (.laload, 1)) (hM : M a = some (t, ab_al g n f)) (hin : vp_in i n) (kk : AW l g X Z y F Lw kc ks (pc + 1) L (.long (f i.toNatClampNeg) :: st) M) : AW l g X Z y F Lw kc ks pc L (.int i :: .ref a :: st) M := by
  intro p e R s m args below meth c H locs cells slots ls C c1 c2 hS hR hl
  obtain ⟨ws, hP, hD, hW⟩ := id hR
  obtain ⟨kw, hk⟩ := hW a t _ hM
  exact va_lald (D := ab_D g) (tys := ab_tys g) C.1 C.2.1 C.2.2.2.2.2.2.2.2.2.2.2.1.1 hP kw 1 hk rfl hin hd (kk p e R s m args below meth c H locs cells slots ls C c1 c2 hS hR hl)
theorem aw_aald0 {a n : Nat} {t : Nat × Nat} {f : Nat → Option Nat} {i : Int32} (hd : decode y.2.1 pc = .ok (.aaload, 1)) (hM : M a = some (t, ab_aq g n f)) (hin : vp_in i n) (kk : AW l g X Z y F Lw kc ks (pc + 1) L (va_rf (f i.toNatClampNeg) :: st) M) : AW l g X Z y F Lw kc ks pc L (.int i :: .ref a :: st) M := by
  intro p e R s m args below meth c H locs cells slots ls C c1 c2 hS hR hl
  obtain ⟨ws, hP, hD, hW⟩ := id hR
  obtain ⟨kw, hk⟩ := hW a t _ hM
  exact va_aldq (D := ab_D g) (tys := ab_tys g) C.1 C.2.1 C.2.2.2.2.2.2.2.2.2.2.2.1.1 hP kw 3 hk rfl hin hd (kk p e R s m args below meth c H locs cells slots ls C c1 c2 hS hR hl)
theorem aw_aald {a n x : Nat} {t : Nat × Nat} {f : Nat → Option Nat} {i : Int32} (hd : decode y.2.1 pc = .ok (.aaload, 1)) (hM : M a = some (t, ab_aq g n f)) (hin : vp_in i n) (hf : f i.toNatClampNeg = some x) (kk : AW l g X Z y F Lw kc ks (pc + 1) L (.ref x :: st) M) : AW l g X Z y F Lw kc ks pc L (.int i :: .ref a :: st) M := by
  refine aw_aald0 hd hM hin ?_
  rw [hf]
  exact kk
theorem aw_iast {a n : Nat} {t : Nat × Nat} {f : Nat → Int32} {i : Int32} {x : Int32} (hd : decode y.2.1 pc = .ok (.iastore, 1)) (hM : M a = some (t, ab_ai g n f)) (hin : vp_in i n) (kk : AW l g X Z y F Lw kc ks (pc + 1) L st (ab_set M a t (ab_ai g n (upd f i.toNatClampNeg x)))) : AW l g X Z y F Lw kc ks pc L (.int x :: .int i :: .ref a :: st) M := by
  intro p e R s m args below meth c H locs cells slots ls C c1 c2 hS hR hl
  obtain ⟨ws, hP, hD, hW⟩ := id hR
  obtain ⟨kw, hk⟩ := hW a t _ hM
  exact va_iast (D := ab_D g) (tys := ab_tys g) C.1 C.2.1 C.2.2.2.2.2.2.2.2.2.2.2.1.1 hP hD hS kw 0 hk rfl hin hd (fun H1 locs1 hP1 hD1 hS1 => kk p e R s m args below meth c H1 locs1 cells slots ls C c1 c2 hS1 (ab_R_put (H := H) hP1 hD1 hk hW hD) hl)
theorem aw_zast {a n : Nat} {t : Nat × Nat} {f : Nat → Int32} {i : Int32} {x : Int32} (hd : decode y.2.1 pc = .ok (.bastore, 1)) (hM : M a = some (t, ab_az g n f)) (hin : vp_in i n) (kk : AW l g X Z y F Lw kc ks (pc + 1) L st (ab_set M a t (ab_az g n (upd f i.toNatClampNeg (vp_nar .boolean x))))) : AW l g X Z y F Lw kc ks pc L (.int x :: .int i :: .ref a :: st) M := by
  intro p e R s m args below meth c H locs cells slots ls C c1 c2 hS hR hl
  obtain ⟨ws, hP, hD, hW⟩ := id hR
  obtain ⟨kw, hk⟩ := hW a t _ hM
  exact va_zast (D := ab_D g) (tys := ab_tys g) C.1 C.2.1 C.2.2.2.2.2.2.2.2.2.2.2.1.1 hP hD hS kw 2 hk rfl hin hd (fun H1 locs1 hP1 hD1 hS1 => kk p e R s m args below meth c H1 locs1 cells slots ls C c1 c2 hS1 (ab_R_put (H := H) hP1 hD1 hk hW hD) hl)
theorem aw_last {a n : Nat} {t : Nat × Nat} {f : Nat → Int64} {i : Int32} {x : Int64} (hd : decode y.2.1 pc = .ok (.lastore, 1)) (hM : M a = some (t, ab_al g n f)) (hin : vp_in i n) (kk : AW l g X Z y F Lw kc ks (pc + 1) L st (ab_set M a t (ab_al g n (vp_updL f i.toNatClampNeg x)))) : AW l g X Z y F Lw kc ks pc L (.long x :: .int i :: .ref a :: st) M := by
  intro p e R s m args below meth c H locs cells slots ls C c1 c2 hS hR hl
  obtain ⟨ws, hP, hD, hW⟩ := id hR
  obtain ⟨kw, hk⟩ := hW a t _ hM
  exact va_last (D := ab_D g) (tys := ab_tys g) C.1 C.2.1 C.2.2.2.2.2.2.2.2.2.2.2.1.1 hP hD hS kw 1 hk rfl hin hd (fun H1 locs1 hP1 hD1 hS1 => kk p e R s m args below meth c H1 locs1 cells slots ls C c1 c2 hS1 (ab_R_put (H := H) hP1 hD1 hk hW hD) hl)
theorem aw_aastN {a n : Nat} {t : Nat × Nat} {f : Nat → Option Nat} {i : Int32} (hd : decode y.2.1 pc = .ok (.aastore, 1)) (hM : M a = some (t, ab_aq g n f)) (hin : vp_in i n) (kk : AW l g X Z y F Lw kc ks (pc + 1) L st (ab_set M a t (ab_aq g n (va_up f i.toNatClampNeg none)))) : AW l g X Z y F Lw kc ks pc L (.null :: .int i :: .ref a :: st) M := by
  intro p e R s m args below meth c H locs cells slots ls C c1 c2 hS hR hl
  obtain ⟨ws, hP, hD, hW⟩ := id hR
  obtain ⟨kw, hk⟩ := hW a t _ hM
  exact va_astqN (D := ab_D g) (tys := ab_tys g) C.1 C.2.1 C.2.2.2.2.2.2.2.2.2.2.2.1.1 hP hD hS kw 3 hk rfl hin hd (fun H1 locs1 hP1 hD1 hS1 => kk p e R s m args below meth c H1 locs1 cells slots ls C c1 c2 hS1 (ab_R_put (H := H) hP1 hD1 hk hW hD) hl)
theorem aw_aast {a n x ci : Nat} {t t2 : Nat × Nat} {f : Nat → Option Nat} {i : Int32} {fs : List Value} {r : vw_C} (hd : decode y.2.1 pc = .ok (.aastore, 1)) (hM : M a = some (t, ab_aq g n f)) (hx : M x = some (t2, .inr (ci, fs))) (hr : vwCl[ci]? = some r) (hca : Cond.castable r.1 "java/lang/Object" ∈ ab_nest) (hin : vp_in i n) (kk : AW l g X Z y F Lw kc ks (pc + 1) L st (ab_set M a t (ab_aq g n (va_up f i.toNatClampNeg (some x))))) : AW l g X Z y F Lw kc ks pc L (.ref x :: .int i :: .ref a :: st) M := by
  intro p e R s m args below meth c H locs cells slots ls C c1 c2 hS hR hl
  obtain ⟨ws, hP, hD, hW⟩ := id hR
  obtain ⟨kw, hk⟩ := hW a t _ hM
  obtain ⟨kx, hkx⟩ := hW x t2 _ hx
  have hE := C.2.2.2.2.2.2.2.2.2.2.2.1
  exact va_astqO (D := ab_D g) (tys := ab_tys g) C.1 C.2.1 hE.1 hP hD hS kw 3 kx ci hk rfl (hE.2.1 _ hca) hkx hr hin hd (fun H1 locs1 hP1 hD1 hS1 => kk p e R s m args below meth c H1 locs1 cells slots ls C c1 c2 hS1 (ab_R_put (H := H) hP1 hD1 hk hW hD) hl)
theorem aw_alen {a : Nat} {t : Nat × Nat} {x : vp_A} {cA : ClassId} {v : Int32} (hd : decode y.2.1 pc = .ok (.arraylength, 1)) (hM : M a = some (t, .inl (cA, x))) (tn : Nat) {ty : FieldType} (htn : (ab_tys g)[tn]? = some (cA, ty)) (hv : Int32.ofNat x.1 = v) (kk : AW l g X Z y F Lw kc ks (pc + 1) L (.int v :: st) M) : AW l g X Z y F Lw kc ks pc L (.ref a :: st) M := by
  intro p e R s m args below meth c H locs cells slots ls C c1 c2 hS hR hl
  obtain ⟨ws, hP, hD, hW⟩ := id hR
  obtain ⟨kw, hk⟩ := hW a t _ hM
  exact va_alen (D := ab_D g) (tys := ab_tys g) C.1 C.2.1 C.2.2.2.2.2.2.2.2.2.2.2.1.1 hP kw tn hk htn hv hd (kk p e R s m args below meth c H locs cells slots ls C c1 c2 hS hR hl)
theorem aw_alen0 (hd : decode y.2.1 pc = .ok (.arraylength, 1)) (kk : AW l g X Z y F Lw kc ks (pc + 1) L (.int 0 :: st) M) : AW l g X Z y F Lw kc ks pc L (.ref (ab_e0 g) :: st) M := by
  intro p e R s m args below meth c H locs cells slots ls C c1 c2 hS hR hl
  exact va_tlen C.1 C.2.1 C.2.2.2.2.2.2.2.2.2.2.2.1.2.2.2.2.2 hS rfl hd (kk p e R s m args below meth c H locs cells slots ls C c1 c2 hS hR hl)
theorem aw_gets0 {i : Nat} (hd : decode y.2.1 pc = .ok (.getstatic i, 3)) (hlink : Cond.fieldLink y.1.cls i "java/util/ArrayList" "DEFAULTCAPACITY_EMPTY_ELEMENTDATA" "[Ljava/lang/Object;" ∈ ab_T) (kk : AW l g X Z y F Lw kc ks (pc + 3) L (.ref (ab_e0 g) :: st) M) : AW l g X Z y F Lw kc ks pc L st M := by
  intro p e R s m args below meth c H locs cells slots ls C c1 c2 hS hR hl
  exact va_gets C.1 C.2.1 C.2.2.2.2.2.2.2.2.2.2.2.1.2.2.2.2.1 hS C.2.2.2.1 (C.2.2.2.2.1 _ hlink) (fun _ h9 => h9) hd (kk p e R s m args below meth c H locs cells slots ls C c1 c2 hS hR hl)
theorem ab_recv {s : State} {H : Heap} {a ci : Nat} {t : Nat × Nat} {fs : List Value} {C : String} {T : u_T} {N : Nat} (hE : ab_E g s s.heap) (hR : ab_R g M H) (hM : M a = some (t, .inr (ci, fs))) (hc : vwCl[ci]? = some (C, T, N)) : ∃ cell : Cell, H[a]? = some cell ∧ cell.vm.isStatics = false ∧ s.vm.findClass C = some cell.cls := by
  obtain ⟨ws, hP, hD, hW⟩ := id hR
  obtain ⟨kw, hk⟩ := hW a t _ hM
  exact va_recv hE.1 hP hc hk
theorem aw_castS {i a ci : Nat} {t : Nat × Nat} {fs : List Value} {C : String} {T : u_T} {N : Nat} (hd : decode y.2.1 pc = .ok (.checkcast i, 3)) (hlink : Cond.classLink y.1.cls i C ∈ ab_T) (hM : M a = some (t, .inr (ci, fs))) (hc : vwCl[ci]? = some (C, T, N)) (kk : AW l g X Z y F Lw kc ks (pc + 3) L (.ref a :: st) M) : AW l g X Z y F Lw kc ks pc L (.ref a :: st) M := by
  intro p e R s m args below meth c H locs cells slots ls C c1 c2 hS hR hl
  have hE := C.2.2.2.2.2.2.2.2.2.2.2.1
  exact va_castS C.1 C.2.1 C.2.2.2.1 (C.2.2.2.2.1 _ hlink) (hE.1.1 ci _ hc).2 (ab_recv hE hR hM hc) hd (kk p e R s m args below meth c H locs cells slots ls C c1 c2 hS hR hl)
theorem aw_castY {i a ci : Nat} {t : Nat × Nat} {fs : List Value} {C nm : String} {T : u_T} {N : Nat} (hd : decode y.2.1 pc = .ok (.checkcast i, 3)) (hlink : Cond.classLink y.1.cls i nm ∈ ab_T) (hca : Cond.castable C nm ∈ ab_nest) (hM : M a = some (t, .inr (ci, fs))) (hc : vwCl[ci]? = some (C, T, N)) (kk : AW l g X Z y F Lw kc ks (pc + 3) L (.ref a :: st) M) : AW l g X Z y F Lw kc ks pc L (.ref a :: st) M := by
  intro p e R s m args below meth c H locs cells slots ls C c1 c2 hS hR hl
  have hE := C.2.2.2.2.2.2.2.2.2.2.2.1
  exact va_castY C.1 C.2.1 C.2.2.2.1 (C.2.2.2.2.1 _ hlink) (hE.2.1 _ hca) (ab_recv hE hR hM hc) hd (kk p e R s m args below meth c H locs cells slots ls C c1 c2 hS hR hl)
theorem aw_instS {i a ci : Nat} {t : Nat × Nat} {fs : List Value} {C : String} {T : u_T} {N : Nat} (hd : decode y.2.1 pc = .ok (.instanceof i, 3)) (hlink : Cond.classLink y.1.cls i C ∈ ab_T) (hM : M a = some (t, .inr (ci, fs))) (hc : vwCl[ci]? = some (C, T, N)) (kk : AW l g X Z y F Lw kc ks (pc + 3) L (.int 1 :: st) M) : AW l g X Z y F Lw kc ks pc L (.ref a :: st) M := by
  intro p e R s m args below meth c H locs cells slots ls C c1 c2 hS hR hl
  have hE := C.2.2.2.2.2.2.2.2.2.2.2.1
  exact va_instS C.1 C.2.1 C.2.2.2.1 (C.2.2.2.2.1 _ hlink) (hE.1.1 ci _ hc).2 (ab_recv hE hR hM hc) hd (kk p e R s m args below meth c H locs cells slots ls C c1 c2 hS hR hl)
theorem aw_instNo {i a ci : Nat} {t : Nat × Nat} {fs : List Value} {C : String} {T : u_T} {N : Nat} (hd : decode y.2.1 pc = .ok (.instanceof i, 3)) (hlink : Cond.classLink y.1.cls i "WaterMen$Donkey" ∈ ab_T) (hno : C ∈ ab_noD) (hM : M a = some (t, .inr (ci, fs))) (hc : vwCl[ci]? = some (C, T, N)) (kk : AW l g X Z y F Lw kc ks (pc + 3) L (.int 0 :: st) M) : AW l g X Z y F Lw kc ks pc L (.ref a :: st) M := by
  intro p e R s m args below meth c H locs cells slots ls C c1 c2 hS hR hl
  have hE := C.2.2.2.2.2.2.2.2.2.2.2.1
  exact va_instNo C.1 C.2.1 C.2.2.2.1 (C.2.2.2.2.1 _ hlink) (hE.2.2.2.1 _ hno) (ab_recv hE hR hM hc) hd (kk p e R s m args below meth c H locs cells slots ls C c1 c2 hS hR hl)
/-- what is new: objects -/
theorem aw_new {i ci N : Nat} {C : String} {T : u_T} {ty0 : Nat → FieldType} (t : Nat × Nat) (fs : List Value) (hd : decode y.2.1 pc = .ok (.new i, 3)) (hc : ab_cl ci C T N ty0) (hlink : Cond.classLink y.1.cls i C ∈ ab_T) (hinst : Cond.instantiable C N ∈ ab_T) (hini : Cond.initialized C ∈ ab_T) (hfs : ∀ j, j < N → defaultValue (ty0 j) = vp_V fs j)
    (kk : ∀ a : Nat, M a = none → AW l g X Z y F Lw kc ks (pc + 3) L (.ref a :: st) (ab_set M a t (.inr (ci, fs)))) : AW l g X Z y F Lw (kc + 1) (ks + N) pc L st M := by
  intro p e R s m args below meth c H locs cells slots ls C c1 c2 hS hR hl
  obtain ⟨ws, hP, hD, hW⟩ := id hR
  obtain ⟨hx, hb, hml, hown, hts, -, -, -, -, -, -, hE, hB⟩ := id C
  refine va_new (D := ab_D g) (tys := ab_tys g) hx hb hts hc.2.1 ty0 hc.2.2.1 hown (hts _ hlink) (hts _ hinst) (hts _ hini) hE.1 hP hD hS (fun q hq => Nat.le_trans hB hq) hc.1 hfs (by omega) (by omega) hd (fun q H1 hP1 hD1 hS1 => ?_)
  obtain ⟨h1, h2⟩ := ab_R_new (t := t) hP1 hD1 hW
  exact kk q h1 p e R s m args below meth c H1 locs (cells + 1) (slots + N) ls C (by omega) (by omega) hS1 h2 hl
theorem ab_cA {s : State} {cA : ClassId} {ty : FieldType} {tys : List (ClassId × FieldType)} {D : va_G} {cl : List vw_C} (hK : va_K D cl (tys ++ [(cA, ty)]) s) {tn : Nat} {c0 : ClassId} (h : tys[tn]? = some (c0, ty)) : cA = c0 := by
  have h1 := (hK.2 tn (c0, ty) (by rw [List.getElem?_append_left (List.getElem?_eq_some_iff.mp h).1]; exact h)).2
  have h2 := (hK.2 tys.length (cA, ty) (by simp)).2
  cases ty with
  | object C =>
    obtain ⟨_, _, _, _, _, e1⟩ := h1
    obtain ⟨_, _, _, _, _, e2⟩ := h2
    exact Option.some.inj (e2.symm.trans e1)
  | _ => exact Option.some.inj (Eq.trans (Eq.symm h2) h1)

theorem aw_newaI {atype : ArrayType} {n : Int32} {N : Nat} (t : Nat × Nat) (hd : decode y.2.1 pc = .ok (.newarray atype, 2)) (hty : newarray.typeOf atype = .int) (harr : Cond.arrayClass .int ∈ ab_T) (hn : ¬ n < 0) (hN : n.toNatClampNeg = N) (hbytes : N * componentBytes .int ≤ 536870912)
    (kk : ∀ a : Nat, M a = none → AW l g X Z y F Lw kc ks (pc + 2) L (.ref a :: st) (ab_set M a t (ab_ai g N (fun _ => 0)))) : AW l g X Z y F Lw (kc + 1) (ks + N) pc L (.int n :: st) M := by
  intro p e R s m args below meth c H locs cells slots ls C c1 c2 hS hR hl
  obtain ⟨ws, hP, hD, hW⟩ := id hR
  obtain ⟨hx, hb, hml, hown, hts, -, -, -, -, -, -, hE, hB⟩ := id C
  refine va_newa (D := ab_D g) (tys := ab_tys g) (a0 := (N, .inl (fun _ => 0))) hx hb (by rw [hty]; exact hts _ harr) hty hE.1 hP hD hS (fun q hq => Nat.le_trans hB hq) (fun cA => rfl) hn hN hbytes (by omega) (by omega) hd (fun q cA H1 hK1 hP1 hD1 hS1 => ?_)
  have hcA : cA = g.2.2.1 0 := ab_cA hK1 (tn := 0) rfl
  subst hcA
  obtain ⟨h1, h2⟩ := ab_R_new (t := t) hP1 hD1 hW
  exact kk q h1 p e R s m args below meth c H1 locs (cells + 1) (slots + N) ls C (by omega) (by omega) hS1 h2 hl
theorem aw_newaJ {atype : ArrayType} {n : Int32} {N : Nat} (t : Nat × Nat) (hd : decode y.2.1 pc = .ok (.newarray atype, 2)) (hty : newarray.typeOf atype = .long) (harr : Cond.arrayClass .long ∈ ab_T) (hn : ¬ n < 0) (hN : n.toNatClampNeg = N) (hbytes : N * componentBytes .long ≤ 536870912)
    (kk : ∀ a : Nat, M a = none → AW l g X Z y F Lw kc ks (pc + 2) L (.ref a :: st) (ab_set M a t (ab_al g N (fun _ => 0)))) : AW l g X Z y F Lw (kc + 1) (ks + N) pc L (.int n :: st) M := by
  intro p e R s m args below meth c H locs cells slots ls C c1 c2 hS hR hl
  obtain ⟨ws, hP, hD, hW⟩ := id hR
  obtain ⟨hx, hb, hml, hown, hts, -, -, -, -, -, -, hE, hB⟩ := id C
  refine va_newa (D := ab_D g) (tys := ab_tys g) (a0 := (N, .inr (.inl (fun _ => 0)))) hx hb (by rw [hty]; exact hts _ harr) hty hE.1 hP hD hS (fun q hq => Nat.le_trans hB hq) (fun cA => rfl) hn hN hbytes (by omega) (by omega) hd (fun q cA H1 hK1 hP1 hD1 hS1 => ?_)
  have hcA : cA = g.2.2.1 1 := ab_cA hK1 (tn := 1) rfl
  subst hcA
  obtain ⟨h1, h2⟩ := ab_R_new (t := t) hP1 hD1 hW
  exact kk q h1 p e R s m args below meth c H1 locs (cells + 1) (slots + N) ls C (by omega) (by omega) hS1 h2 hl
theorem aw_newaZ {atype : ArrayType} {n : Int32} {N : Nat} (t : Nat × Nat) (hd : decode y.2.1 pc = .ok (.newarray atype, 2)) (hty : newarray.typeOf atype = .boolean) (harr : Cond.arrayClass .boolean ∈ ab_T) (hn : ¬ n < 0) (hN : n.toNatClampNeg = N) (hbytes : N * componentBytes .boolean ≤ 536870912)
    (kk : ∀ a : Nat, M a = none → AW l g X Z y F Lw kc ks (pc + 2) L (.ref a :: st) (ab_set M a t (ab_az g N (fun _ => 0)))) : AW l g X Z y F Lw (kc + 1) (ks + N) pc L (.int n :: st) M := by
  intro p e R s m args below meth c H locs cells slots ls C c1 c2 hS hR hl
  obtain ⟨ws, hP, hD, hW⟩ := id hR
  obtain ⟨hx, hb, hml, hown, hts, -, -, -, -, -, -, hE, hB⟩ := id C
  refine va_newa (D := ab_D g) (tys := ab_tys g) (a0 := (N, .inl (fun _ => 0))) hx hb (by rw [hty]; exact hts _ harr) hty hE.1 hP hD hS (fun q hq => Nat.le_trans hB hq) (fun cA => rfl) hn hN hbytes (by omega) (by omega) hd (fun q cA H1 hK1 hP1 hD1 hS1 => ?_)
  have hcA : cA = g.2.2.1 2 := ab_cA hK1 (tn := 2) rfl
  subst hcA
  obtain ⟨h1, h2⟩ := ab_R_new (t := t) hP1 hD1 hW
  exact kk q h1 p e R s m args below meth c H1 locs (cells + 1) (slots + N) ls C (by omega) (by omega) hS1 h2 hl
theorem aw_newq {i : Nat} {n : Int32} {N : Nat} (t : Nat × Nat) (hd : decode y.2.1 pc = .ok (.anewarray i, 3)) (hlink : Cond.classLink y.1.cls i "java/lang/Object" ∈ ab_T) (hn : ¬ n < 0) (hN : n.toNatClampNeg = N) (hbytes : N * 4 ≤ 536870912)
    (kk : ∀ a : Nat, M a = none → AW l g X Z y F Lw kc ks (pc + 3) L (.ref a :: st) (ab_set M a t (ab_aq g N (fun _ => none)))) : AW l g X Z y F Lw (kc + 1) (ks + N) pc L (.int n :: st) M := by
  intro p e R s m args below meth c H locs cells slots ls C c1 c2 hS hR hl
  obtain ⟨ws, hP, hD, hW⟩ := id hR
  obtain ⟨hx, hb, hml, hown, hts, -, -, -, -, -, -, hE, hB⟩ := id C
  refine va_newq (D := ab_D g) (tys := ab_tys g) hx hb hown (hts _ hlink) hE.2.2.1 hE.1 hP hD hS (fun q hq => Nat.le_trans hB hq) hn hN hbytes (by omega) (by omega) hd (fun q cA H1 hK1 hP1 hD1 hS1 => ?_)
  have hcA : cA = g.2.2.1 3 := ab_cA hK1 (tn := 3) rfl
  subst hcA
  obtain ⟨h1, h2⟩ := ab_R_new (t := t) hP1 hD1 hW
  exact kk q h1 p e R s m args below meth c H1 locs (cells + 1) (slots + N) ls C (by omega) (by omega) hS1 h2 hl
theorem aw_objInit {i a : Nat} (hd : decode y.2.1 pc = .ok (.invokespecial i, 3)) (h1 : Cond.methodLink y.1.cls i objectInit ∈ ab_T) (h2 : Cond.instanceMethod objectInit ∈ ab_T) (h3 : Cond.code objectInit ⟨#[0xb1]⟩ 1 none ∈ ab_T) (hF : 1 ≤ F) (hLw : (st.map fun v => v.category).sum + 12 ≤ Lw) (kk : AW l g X Z y F Lw kc ks (pc + 3) L st M) : AW l g X Z y F Lw kc ks pc L (.ref a :: st) M := by
  intro p e R s m args below meth c H locs cells slots ls C c1 c2 hS hR hl
  obtain ⟨hx, hb, hml, hown, hts, -, -, -, -, hF1, hL1, hE, hB⟩ := id C
  exact W.objInit hx hb hown (hts _ h1) (hts _ h2) (hts _ h3) rfl (by rw [hml]; exact hl.1) rfl hd (by omega) (by show 2 * 0 + _ + 12 ≤ _; omega) (kk p e R s m args below meth c H locs cells slots ls C c1 c2 hS hR hl)
theorem aw_arraycopy {i a n0 : Nat} {t : Nat × Nat} {f : Nat → Option Nat} {sp dp n : Int32} (hd : decode y.2.1 pc = .ok (.invokestatic i, 3)) (h1 : Cond.methodLink y.1.cls i arraycopyName ∈ ab_T) (h2 : Cond.native arraycopyName ∈ ab_T) (h3 : Cond.static arraycopyName ∈ ab_T) (h4 : Cond.initialized "java/lang/System" ∈ ab_T) (hF : 1 ≤ F) (hLw : (st.map fun v => v.category).sum + (nativeFrameWords "java/lang/System" "arraycopy" 5 + 11) ≤ Lw) (hM : M a = some (t, ab_aq g n0 f)) (g1 : ¬ sp < 0) (g2 : ¬ dp < 0) (g3 : ¬ n < 0) (g4 : sp.toNatClampNeg + n.toNatClampNeg ≤ n0) (g5 : dp.toNatClampNeg + n.toNatClampNeg ≤ n0)
    (hel : ∀ i : Nat, i < n.toNatClampNeg → ∀ x : Nat, f (sp.toNatClampNeg + i) = some x → ∃ (t2 : Nat × Nat) (ci : Nat) (fs : List Value) (r : vw_C), M x = some (t2, .inr (ci, fs)) ∧ vwCl[ci]? = some r ∧ Cond.castable r.1 "java/lang/Object" ∈ ab_nest)
    (kk : AW l g X Z y F Lw kc ks (pc + 3) L st (ab_set M a t (ab_aq g n0 (va_cpy f f sp.toNatClampNeg dp.toNatClampNeg n.toNatClampNeg)))) : AW l g X Z y F Lw kc ks pc L (.int n :: .int dp :: .ref a :: .int sp :: .ref a :: st) M := by
  intro p e R s m args below meth c H locs cells slots ls C c1 c2 hS hR hl
  obtain ⟨ws, hP, hD, hW⟩ := id hR
  obtain ⟨kw, hk⟩ := hW a t _ hM
  obtain ⟨hx, hb, hml, hown, hts, -, -, -, -, hF1, hL1, hE, hB⟩ := id C
  refine va_copyM (D := ab_D g) (tys := ab_tys g) hx hb (hml.trans hl.1.symm) hown (hts _ h1) (hts _ h2) (hts _ h3) (hts _ h4) hE.1 hP hD hS kw kw 3 3 hk hk rfl rfl g1 g2 g3 g4 g5 (fun i hi x hx2 => ?_) (by omega) (by omega) hd (fun H1 locs1 hP1 hD1 hS1 => kk p e R s m args below meth c H1 locs1 cells slots ls C c1 c2 hS1 (ab_R_put (H := H) hP1 hD1 hk hW hD) hl)
  obtain ⟨t2, ci, fs, r, e1, e2, e3⟩ := hel i hi x hx2
  obtain ⟨kx, hkx⟩ := hW x t2 _ e1
  refine va_rAny hE.1 hP hkx e2 ?_
  have hn := hE.2.1 _ e3
  intro comp c0 hcm hc0
  have hz : (Cond.castable r.1 "java/lang/Object").before #[] s = true := hn
  simp only [Cond.before, Cond.holds, Cond.value] at hz
  rw [hc0, hcm] at hz
  simpa using hz

end AB2
