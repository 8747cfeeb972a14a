
/-! ===== the memory, the world, the walker ===== -/
abbrev ab_M : Type := Nat → Option ((Nat × Nat) × va_E)
def ab_set (M : ab_M) (a : Nat) (t : Nat × Nat) (e : va_E) : ab_M := fun q => if q = a then some (t, e) else M q
theorem ab_set_self {M : ab_M} {a : Nat} {t : Nat × Nat} {e : va_E} : ab_set M a t e a = some (t, e) := by simp [ab_set]
theorem ab_set_ne {M : ab_M} {a b : Nat} {t : Nat × Nat} {e : va_E} (h : b ≠ a) : ab_set M a t e b = M b := by simp [ab_set, h]
theorem ab_set_tag {M : ab_M} {a b : Nat} {t t2 : Nat × Nat} {e e0 e2 : va_E} (ha : M a = some (t, e0)) (hb : M b = some (t2, e2)) (ht : t2 ≠ t) : ab_set M a t e b = some (t2, e2) := by
  rw [ab_set_ne, hb]
  intro h
  subst h
  rw [hb] at ha
  cases ha
  exact ht rfl
theorem ab_set_new {M : ab_M} {a b : Nat} {t : Nat × Nat} {e : va_E} {z : (Nat × Nat) × va_E} (ha : M a = none) (hb : M b = some z) : ab_set M a t e b = some z := by
  rw [ab_set_ne, hb]
  intro h
  subst h
  rw [hb] at ha
  cases ha
/-- class numbers, slots, array classes, the first new address, the empty row of ArrayList -/
abbrev ab_G : Type := (Nat → ClassId) × (Nat → Nat → Nat) × (Nat → ClassId) × Nat × Nat
abbrev ab_D (g : ab_G) : va_G := (g.1, g.2.1)
abbrev ab_B (g : ab_G) : Nat := g.2.2.2.1
abbrev ab_e0 (g : ab_G) : Nat := g.2.2.2.2
abbrev ab_A (g : ab_G) : Nat → Prop := fun q => ab_B g ≤ q
abbrev ab_tys (g : ab_G) : List (ClassId × FieldType) := [(g.2.2.1 0, .int), (g.2.2.1 1, .long), (g.2.2.1 2, .boolean), (g.2.2.1 3, .object "java/lang/Object")]
abbrev ab_ai (g : ab_G) (n : Nat) (f : Nat → Int32) : va_E := .inl (g.2.2.1 0, n, .inl f)
abbrev ab_al (g : ab_G) (n : Nat) (f : Nat → Int64) : va_E := .inl (g.2.2.1 1, n, .inr (.inl f))
abbrev ab_az (g : ab_G) (n : Nat) (f : Nat → Int32) : va_E := .inl (g.2.2.1 2, n, .inl f)
abbrev ab_aq (g : ab_G) (n : Nat) (f : Nat → Option Nat) : va_E := .inl (g.2.2.1 3, n, .inr (.inr (.inr (.inr f))))
abbrev ab_ob (ci : Nat) (fs : List Value) : va_E := .inr (ci, fs)
/-- the words of the tables that every method may use -/
def ab_T : List Cond := lw_tbl.filter goodWord
theorem ab_T_in {i : Nat} {w : Cond} (h : lw_tbl[i]? = some w) (hg : goodWord w = true) : w ∈ ab_T := List.mem_filter.mpr ⟨List.mem_of_getElem? h, hg⟩
theorem ab_T_good {w : Cond} (h : w ∈ ab_T) : (w.onTables && w.keeps) = true ∨ ∃ ty, w = .arrayClass ty := good_of_word (List.mem_filter.mp h).2
def ab_isN : Cond → Bool
  | .methodLinkNest .. => true
  | .castable .. => true
  | _ => false
def ab_nest : List Cond := lw_tbl.filter ab_isN
def ab_noD : List String := ["WaterMen$Man", "WaterMen$Strong"]
/-- what holds of the tables and of the statics, at a state and a heap -/
def ab_E (g : ab_G) (U : State) (H : Heap) : Prop :=
  va_K (ab_D g) vwCl (ab_tys g) U ∧ (∀ w ∈ ab_nest, va_Nw w U) ∧ va_AO "java/lang/Object" U ∧ (∀ C ∈ ab_noD, va_Nc C "WaterMen$Donkey" U) ∧
  va_Z "java/util/ArrayList" "DEFAULTCAPACITY_EMPTY_ELEMENTDATA" "[Ljava/lang/Object;" (.ref (ab_e0 g)) (ab_A g) U H ∧ va_T (.object "java/lang/Object") (ab_e0 g) 0 (fun _ => .null) (ab_A g) U H
theorem ab_nest_warm {s U : State} (hW : s.WarmedH U.vm) {w : Cond} (hw : w ∈ ab_nest) (h : va_Nw w s) : va_Nw w U := by
  have h2 := (List.mem_filter.mp hw).2
  cases w <;> first | exact va_Nw.warmM hW h | exact va_Nw.warmC hW h | (simp [ab_isN] at h2; done)
theorem ab_E_warm {g : ab_G} {s U : State} {H H1 : Heap} (hW : s.WarmedH U.vm) (h : ab_E g s H) (hq : ∀ a : Nat, a < H.size → ¬ ab_A g a → H1[a]? = H[a]?) : ab_E g U H1 :=
  ⟨va_K.moved hW.alike h.1, fun w hw => ab_nest_warm hW hw (h.2.1 w hw), va_AO.moved hW.alike h.2.2.1, fun C hC => va_Nc.moved hW.alike (h.2.2.2.1 C hC), va_Z.moved hW.alike (va_Z.kept h.2.2.2.2.1 hq), va_T.moved hW.alike (va_T.kept h.2.2.2.2.2 hq)⟩
/-- the heap holds the memory -/
def ab_R (g : ab_G) (M : ab_M) (H : Heap) : Prop := ∃ ws : va_W, va_P (ab_D g) vwCl ws H ∧ va_D (ab_A g) ws ∧ ∀ (a : Nat) (t : Nat × Nat) (e : va_E), M a = some (t, e) → ∃ k : Nat, ws[k]? = some (a, e)
/-- locals -/
def ab_pr : Nat → List (Option Value) → List (Nat × Value)
  | _, [] => []
  | i, none :: L => ab_pr (i + 1) L
  | i, some v :: L => (i, v) :: ab_pr (i + 1) L
theorem ab_pr_mem : ∀ (L : List (Option Value)) (i j : Nat) (v : Value), (j, v) ∈ ab_pr i L ↔ i ≤ j ∧ L[j - i]? = some (some v)
  | [], i, j, v => by simp [ab_pr]
  | none :: L, i, j, v => by
    rw [ab_pr, ab_pr_mem L (i + 1) j v]
    constructor
    · rintro ⟨h1, h2⟩
      refine ⟨by omega, ?_⟩
      rw [show j - i = (j - (i + 1)) + 1 by omega, List.getElem?_cons_succ]
      exact h2
    · rintro ⟨h1, h2⟩
      by_cases hj : j = i
      · subst hj
        simp at h2
      · rw [show j - i = (j - (i + 1)) + 1 by omega, List.getElem?_cons_succ] at h2
        exact ⟨by omega, h2⟩
  | some u :: L, i, j, v => by
    rw [ab_pr, List.mem_cons, ab_pr_mem L (i + 1) j v]
    constructor
    · rintro (h | ⟨h1, h2⟩)
      · cases h
        exact ⟨Nat.le_refl _, by simp⟩
      · refine ⟨by omega, ?_⟩
        rw [show j - i = (j - (i + 1)) + 1 by omega, List.getElem?_cons_succ]
        exact h2
    · rintro ⟨h1, h2⟩
      by_cases hj : j = i
      · subst hj
        simp at h2
        exact Or.inl (by rw [h2])
      · rw [show j - i = (j - (i + 1)) + 1 by omega, List.getElem?_cons_succ] at h2
        exact Or.inr ⟨by omega, h2⟩
def ab_L (ls : Array Slot) (nL : Nat) (L : List (Option Value)) : Prop := lv_has ls nL (ab_pr 0 L)
theorem ab_L_at {ls : Array Slot} {nL : Nat} {L : List (Option Value)} (h : ab_L ls nL L) {i : Nat} {v : Value} (hi : L[i]? = some (some v)) : ls[i]? = some (.val v) :=
  h.2.2 (i, v) ((ab_pr_mem L 0 i v).mpr ⟨Nat.zero_le _, hi⟩)
def ab_ok1 (L : List (Option Value)) : Nat → Bool
  | 0 => true
  | i + 1 => match L[i]? with
    | some (some (.long _)) => false
    | some (some (.double _)) => false
    | _ => true
theorem ab_ok1_no {L : List (Option Value)} {i : Nat} (h : ab_ok1 L i = true) {j : Nat} {w : Value} (hj : L[j]? = some (some w)) (e : j + 1 = i) : ¬ w.category = 2 := by
  subst e
  rw [ab_ok1, hj] at h
  cases w <;> simp_all [Value.category]
theorem ab_L_pairs {ls : Array Slot} {nL : Nat} {L : List (Option Value)} {i : Nat} {v : Value} (hk : ab_ok1 L i = true) (h : lv_has ls nL ((i, v) :: (ab_pr 0 L).filter (fun q => !(q.1 == i) && !(q.1 + 1 == i && q.2.category == 2)))) : ab_L ls nL (L.set i (some v)) := by
  refine ⟨h.1, h.2.1, fun q hq => ?_⟩
  obtain ⟨j, w⟩ := q
  obtain ⟨-, hj⟩ := (ab_pr_mem _ 0 j w).mp hq
  by_cases hji : j = i
  · subst hji
    by_cases hl : j < L.length
    · simp [List.getElem?_set_self hl] at hj
      subst hj
      exact h.2.2 _ List.mem_cons_self
    · rw [Nat.sub_zero] at hj
      have hz := (List.getElem?_eq_some_iff.mp hj).1
      rw [List.length_set] at hz
      omega
  · have hj2 : L[j]? = some (some w) := by
      rw [Nat.sub_zero, List.getElem?_set_ne (Ne.symm hji)] at hj
      exact hj
    refine h.2.2 _ (List.mem_cons_of_mem _ (List.mem_filter.mpr ⟨(ab_pr_mem L 0 j w).mpr ⟨Nat.zero_le _, hj2⟩, ?_⟩))
    by_cases e : j + 1 = i
    · have := ab_ok1_no hk hj2 e
      simp [hji, this]
    · simp [hji, e]
abbrev ab_Y : Type := MethodName × ByteArray × Nat × Option FieldType
/-- what stays in a body -/
def ab_C (g : ab_G) (X : State → Array Value → Prop) (y : ab_Y) (F Lw : Nat) (p : Program) (R : Room) (s : State) (m : MethodId) (args : Array Value) (meth : Method) (c : Code) : Prop :=
  p.tables.exec = Jvm.exec ∧ c.code = y.2.1 ∧ c.maxLocals = y.2.2.1 ∧ s.vm.findClass y.1.cls = some m.cls ∧ (∀ w ∈ ab_T, w.before args s = true) ∧ meth.locks = false ∧ meth.sig.returnType = y.2.2.2 ∧ meth.name = y.1.name ∧ X s args ∧ F ≤ R.frames ∧ Lw ≤ R.locals ∧ ab_E g s s.heap ∧ ab_B g ≤ s.heap.size
/-- THE WALKER -/
def AW (l : Launch) (g : ab_G) (X : State → Array Value → Prop) (Z : List Frame → Array Value → State → Room → State → Prop) (y : ab_Y) (F Lw kc ks : Nat) (pc : Nat) (L : List (Option Value)) (st : List Value) (M : ab_M) : Prop :=
  ∀ (p : Program) (e : Env) (R : Room) (s : State) (m : MethodId) (args : Array Value) (below : List Frame) (meth : Method) (c : Code) (H : Heap) (locs : List Loc) (cells slots : Nat) (ls : Array Slot),
    ab_C g X y F Lw p R s m args meth c → cells + kc ≤ R.cells → slots + ks ≤ R.slots → va_S (ab_A g) s.heap H locs → ab_R g M H → ab_L ls y.2.2.1 L →
    W p l e R s m args below meth c H locs cells slots (Z below args s R) (F0 m pc ls st)
def ab_Qc (g : ab_G) (Q : Option Value → ab_M → Prop) : Array Value → State → Outcome → State → Prop := fun _ st o t => (∃ (r : Option Value) (M' : ab_M), o = .returned r ∧ Q r M' ∧ ab_R g M' t.heap) ∧ va_F (ab_A g) st t
def ab_Z (g : ab_G) (Q : Option Value → ab_M → Prop) : List Frame → Array Value → State → Room → State → Prop := fun below args s R => MQ below (ab_Qc g Q) args s R.cells R.slots (ab_A g)
def ab_P (g : ab_G) (M : ab_M) : State → Prop := fun U => ab_E g U U.heap ∧ ab_B g ≤ U.heap.size ∧ ab_R g M U.heap
def ab_ws (y : ab_Y) : List Cond := .code y.1 y.2.1 y.2.2.1 y.2.2.2 :: ab_T
/-- A METHOD'S CONTRACT -/
def AM (l : Launch) (g : ab_G) (y : ab_Y) (F Lw mc ms : Nat) (vs : List Value) (M : ab_M) (Q : Option Value → ab_M → Prop) : Prop :=
  Met l y.1 (ab_ws y) { frames := F, cells := mc, slots := ms, locals := Lw } (va_Pc vs (ab_P g M)) (ab_Qc g Q) mc ms (ab_A g)
abbrev ab_X0 : State → Array Value → Prop := fun _ _ => True
theorem AM.of {l : Launch} {g : ab_G} {y : ab_Y} {F Lw mc ms : Nat} {vs : List Value} {M : ab_M} {Q : Option Value → ab_M → Prop} (L : List (Option Value)) (hy : plainName y.1.cls = true) (hn : (lg_sl vs).length ≤ y.2.2.1) (hL : ab_pr 0 L = lv_args 0 vs)
    (h : AW l g ab_X0 (ab_Z g Q) y F Lw mc ms 0 L [] M) : AM l g y F Lw mc ms vs M Q := by
  refine Met.ofW (cc := y.2.1) (maxL := y.2.2.1) (ret := y.2.2.2) hy rfl ?_
  intro p e s m args below meth c s₁ B hml hv
  obtain ⟨rfl, hE, hB, hR⟩ := hv
  have hts := atoms_spec (ws := ab_ws y) B.pre
  have hown : s.vm.findClass y.1.cls = some m.cls := findClass_of_methodNamed B.named
  have hl := lv_entry vs (n := y.2.2.1) hn
  rw [lg_entry_eq]
  refine h p e _ s m _ below meth c s.heap [] 0 0 _ ⟨B.exec, B.bytes, hml, hown, fun w hw => hts w (List.mem_cons_of_mem _ hw), B.notSynchronized, B.returns, (name_of_methodNamed B.named B.method).1, trivial, Nat.le_refl _, Nat.le_refl _, hE, hB⟩ ?_ ?_ va_S.rf hR ?_
  · show 0 + mc ≤ mc
    omega
  · show 0 + ms ≤ ms
    omega
  · show lv_has _ _ (ab_pr 0 L)
    rw [hL]
    exact hl
section AB
variable {l : Launch} {g : ab_G} {X : State → Array Value → Prop} {Z : List Frame → Array Value → State → Room → State → Prop} {y : ab_Y} {F Lw kc ks : Nat} {pc : Nat} {L : List (Option Value)} {st : List Value} {M : ab_M}
theorem AW.use {kc' ks' : Nat} (h1 : kc' ≤ kc) (h2 : ks' ≤ ks) (k : AW l g X Z y F Lw kc' ks' pc L st M) : AW l g X Z y F Lw kc ks pc L st M :=
  fun p e R s m args below meth c H locs cells slots ls C c1 c2 hS hR hl => k p e R s m args below meth c H locs cells slots ls C (by omega) (by omega) hS hR hl
theorem AW.eq {L' : List (Option Value)} {st' : List Value} (h1 : L = L') (h2 : st = st') (k : AW l g X Z y F Lw kc ks pc L' st' M) : AW l g X Z y F Lw kc ks pc L st M := by
  subst h1; subst h2; exact k

theorem aw_iconst {n : Int} {v : Int32} (hd : decode y.2.1 pc = .ok (.iconst n, 1)) (hv : Int32.ofInt n = v) (k : AW l g X Z y F Lw kc ks (pc + 1) L (.int v :: st) M) : AW l g X Z y F Lw kc ks pc L (st) M :=
  fun p e R s m args below meth c H locs cells slots ls C c1 c2 hS hR hl => lv_iconst C.1 C.2.1 hd hv (k p e R s m args below meth c H locs cells slots ls C c1 c2 hS hR hl)
theorem aw_bipush {n : Int} {v : Int32} (hd : decode y.2.1 pc = .ok (.bipush n, 2)) (hv : (Int8.ofInt n).toInt32 = v) (k : AW l g X Z y F Lw kc ks (pc + 2) L (.int v :: st) M) : AW l g X Z y F Lw kc ks pc L (st) M :=
  fun p e R s m args below meth c H locs cells slots ls C c1 c2 hS hR hl => lv_bipush C.1 C.2.1 hd hv (k p e R s m args below meth c H locs cells slots ls C c1 c2 hS hR hl)
theorem aw_sipush {n : Int} {v : Int32} (hd : decode y.2.1 pc = .ok (.sipush n, 3)) (hv : (Int16.ofInt n).toInt32 = v) (k : AW l g X Z y F Lw kc ks (pc + 3) L (.int v :: st) M) : AW l g X Z y F Lw kc ks pc L (st) M :=
  fun p e R s m args below meth c H locs cells slots ls C c1 c2 hS hR hl => lv_sipush C.1 C.2.1 hd hv (k p e R s m args below meth c H locs cells slots ls C c1 c2 hS hR hl)
theorem aw_lconst {n : Fin 2} {v : Int64} (hd : decode y.2.1 pc = .ok (.lconst n, 1)) (hv : Int64.ofNat (n : Nat) = v) (k : AW l g X Z y F Lw kc ks (pc + 1) L (.long v :: st) M) : AW l g X Z y F Lw kc ks pc L (st) M :=
  fun p e R s m args below meth c H locs cells slots ls C c1 c2 hS hR hl => lv_lconst C.1 C.2.1 hd hv (k p e R s m args below meth c H locs cells slots ls C c1 c2 hS hR hl)
theorem aw_null (hd : decode y.2.1 pc = .ok (.aconst_null, 1)) (k : AW l g X Z y F Lw kc ks (pc + 1) L (.null :: st) M) : AW l g X Z y F Lw kc ks pc L (st) M :=
  fun p e R s m args below meth c H locs cells slots ls C c1 c2 hS hR hl => lv_null C.1 C.2.1 hd (k p e R s m args below meth c H locs cells slots ls C c1 c2 hS hR hl)
theorem aw_iload_n {i : Fin 4} {x : Int32} (hd : decode y.2.1 pc = .ok (.iload_n i, 1)) (hi : L[(i : Nat)]? = some (some (.int x))) (k : AW l g X Z y F Lw kc ks (pc + 1) L (.int x :: st) M) : AW l g X Z y F Lw kc ks pc L (st) M :=
  fun p e R s m args below meth c H locs cells slots ls C c1 c2 hS hR hl => lv_iload_n C.1 C.2.1 hd rfl (ab_L_at hl hi) (k p e R s m args below meth c H locs cells slots ls C c1 c2 hS hR hl)
theorem aw_iload {i : Nat} {x : Int32} (hd : decode y.2.1 pc = .ok (.iload i, 2)) (hi : L[i]? = some (some (.int x))) (k : AW l g X Z y F Lw kc ks (pc + 2) L (.int x :: st) M) : AW l g X Z y F Lw kc ks pc L (st) M :=
  fun p e R s m args below meth c H locs cells slots ls C c1 c2 hS hR hl => lv_iload C.1 C.2.1 hd (ab_L_at hl hi) (k p e R s m args below meth c H locs cells slots ls C c1 c2 hS hR hl)
theorem aw_lload_n {i : Fin 4} {x : Int64} (hd : decode y.2.1 pc = .ok (.lload_n i, 1)) (hi : L[(i : Nat)]? = some (some (.long x))) (k : AW l g X Z y F Lw kc ks (pc + 1) L (.long x :: st) M) : AW l g X Z y F Lw kc ks pc L (st) M :=
  fun p e R s m args below meth c H locs cells slots ls C c1 c2 hS hR hl => lv_lload_n C.1 C.2.1 hd rfl (ab_L_at hl hi) (k p e R s m args below meth c H locs cells slots ls C c1 c2 hS hR hl)
theorem aw_lload {i : Nat} {x : Int64} (hd : decode y.2.1 pc = .ok (.lload i, 2)) (hi : L[i]? = some (some (.long x))) (k : AW l g X Z y F Lw kc ks (pc + 2) L (.long x :: st) M) : AW l g X Z y F Lw kc ks pc L (st) M :=
  fun p e R s m args below meth c H locs cells slots ls C c1 c2 hS hR hl => lv_lload C.1 C.2.1 hd (ab_L_at hl hi) (k p e R s m args below meth c H locs cells slots ls C c1 c2 hS hR hl)
theorem aw_aload_n {i : Fin 4} {x : Nat} (hd : decode y.2.1 pc = .ok (.aload_n i, 1)) (hi : L[(i : Nat)]? = some (some (.ref x))) (k : AW l g X Z y F Lw kc ks (pc + 1) L (.ref x :: st) M) : AW l g X Z y F Lw kc ks pc L (st) M :=
  fun p e R s m args below meth c H locs cells slots ls C c1 c2 hS hR hl => lv_aload_n C.1 C.2.1 hd rfl (ab_L_at hl hi) (k p e R s m args below meth c H locs cells slots ls C c1 c2 hS hR hl)
theorem aw_aload {i : Nat} {x : Nat} (hd : decode y.2.1 pc = .ok (.aload i, 2)) (hi : L[i]? = some (some (.ref x))) (k : AW l g X Z y F Lw kc ks (pc + 2) L (.ref x :: st) M) : AW l g X Z y F Lw kc ks pc L (st) M :=
  fun p e R s m args below meth c H locs cells slots ls C c1 c2 hS hR hl => lv_aload C.1 C.2.1 hd (ab_L_at hl hi) (k p e R s m args below meth c H locs cells slots ls C c1 c2 hS hR hl)
theorem aw_aload_nN {i : Fin 4} (hd : decode y.2.1 pc = .ok (.aload_n i, 1)) (hi : L[(i : Nat)]? = some (some .null)) (k : AW l g X Z y F Lw kc ks (pc + 1) L (.null :: st) M) : AW l g X Z y F Lw kc ks pc L (st) M :=
  fun p e R s m args below meth c H locs cells slots ls C c1 c2 hS hR hl => lv_aload_nN C.1 C.2.1 hd rfl (ab_L_at hl hi) (k p e R s m args below meth c H locs cells slots ls C c1 c2 hS hR hl)
theorem aw_aloadN {i : Nat} (hd : decode y.2.1 pc = .ok (.aload i, 2)) (hi : L[i]? = some (some .null)) (k : AW l g X Z y F Lw kc ks (pc + 2) L (.null :: st) M) : AW l g X Z y F Lw kc ks pc L (st) M :=
  fun p e R s m args below meth c H locs cells slots ls C c1 c2 hS hR hl => lv_aloadN C.1 C.2.1 hd (ab_L_at hl hi) (k p e R s m args below meth c H locs cells slots ls C c1 c2 hS hR hl)
theorem aw_istore_n {i : Fin 4} {x : Int32} (hd : decode y.2.1 pc = .ok (.istore_n i, 1)) (hk : ab_ok1 L (i : Nat) = true) (hn : (i : Nat) < y.2.2.1) (k : AW l g X Z y F Lw kc ks (pc + 1) (L.set (i : Nat) (some (.int x))) st M) : AW l g X Z y F Lw kc ks pc L (.int x :: st) M :=
  fun p e R s m args below meth c H locs cells slots ls C c1 c2 hS hR hl => lv_istore_n C.1 C.2.1 hd rfl hl hn rfl (fun ls' hl' => k p e R s m args below meth c H locs cells slots ls' C c1 c2 hS hR (ab_L_pairs hk hl'))
theorem aw_istore {i : Nat} {x : Int32} (hd : decode y.2.1 pc = .ok (.istore i, 2)) (hk : ab_ok1 L i = true) (hn : i < y.2.2.1) (k : AW l g X Z y F Lw kc ks (pc + 2) (L.set i (some (.int x))) st M) : AW l g X Z y F Lw kc ks pc L (.int x :: st) M :=
  fun p e R s m args below meth c H locs cells slots ls C c1 c2 hS hR hl => lv_istore C.1 C.2.1 hd hl hn rfl (fun ls' hl' => k p e R s m args below meth c H locs cells slots ls' C c1 c2 hS hR (ab_L_pairs hk hl'))
theorem aw_astore_n {i : Fin 4} {x : Nat} (hd : decode y.2.1 pc = .ok (.astore_n i, 1)) (hk : ab_ok1 L (i : Nat) = true) (hn : (i : Nat) < y.2.2.1) (k : AW l g X Z y F Lw kc ks (pc + 1) (L.set (i : Nat) (some (.ref x))) st M) : AW l g X Z y F Lw kc ks pc L (.ref x :: st) M :=
  fun p e R s m args below meth c H locs cells slots ls C c1 c2 hS hR hl => lv_astore_n C.1 C.2.1 hd rfl hl hn rfl (fun ls' hl' => k p e R s m args below meth c H locs cells slots ls' C c1 c2 hS hR (ab_L_pairs hk hl'))
theorem aw_astore {i : Nat} {x : Nat} (hd : decode y.2.1 pc = .ok (.astore i, 2)) (hk : ab_ok1 L i = true) (hn : i < y.2.2.1) (k : AW l g X Z y F Lw kc ks (pc + 2) (L.set i (some (.ref x))) st M) : AW l g X Z y F Lw kc ks pc L (.ref x :: st) M :=
  fun p e R s m args below meth c H locs cells slots ls C c1 c2 hS hR hl => lv_astore C.1 C.2.1 hd hl hn rfl (fun ls' hl' => k p e R s m args below meth c H locs cells slots ls' C c1 c2 hS hR (ab_L_pairs hk hl'))
theorem aw_astore_nN {i : Fin 4} (hd : decode y.2.1 pc = .ok (.astore_n i, 1)) (hk : ab_ok1 L (i : Nat) = true) (hn : (i : Nat) < y.2.2.1) (k : AW l g X Z y F Lw kc ks (pc + 1) (L.set (i : Nat) (some (.null))) st M) : AW l g X Z y F Lw kc ks pc L (.null :: st) M :=
  fun p e R s m args below meth c H locs cells slots ls C c1 c2 hS hR hl => lv_astore_nN C.1 C.2.1 hd rfl hl hn rfl (fun ls' hl' => k p e R s m args below meth c H locs cells slots ls' C c1 c2 hS hR (ab_L_pairs hk hl'))
theorem aw_astoreN {i : Nat} (hd : decode y.2.1 pc = .ok (.astore i, 2)) (hk : ab_ok1 L i = true) (hn : i < y.2.2.1) (k : AW l g X Z y F Lw kc ks (pc + 2) (L.set i (some (.null))) st M) : AW l g X Z y F Lw kc ks pc L (.null :: st) M :=
  fun p e R s m args below meth c H locs cells slots ls C c1 c2 hS hR hl => lv_astoreN C.1 C.2.1 hd hl hn rfl (fun ls' hl' => k p e R s m args below meth c H locs cells slots ls' C c1 c2 hS hR (ab_L_pairs hk hl'))
theorem aw_iinc {i : Nat} {n : Int} {x v : Int32} (hd : decode y.2.1 pc = .ok (.iinc i n, 3)) (hi : L[i]? = some (some (.int x))) (hv : x + Int32.ofInt n = v) (hk : ab_ok1 L i = true) (hn : i < y.2.2.1) (k : AW l g X Z y F Lw kc ks (pc + 3) (L.set i (some (.int v))) st M) : AW l g X Z y F Lw kc ks pc L st M := by
  intro p e R s m args below meth c H locs cells slots ls C c1 c2 hS hR hl
  obtain ⟨kk, hkk⟩ := List.getElem?_of_mem ((ab_pr_mem L 0 i (.int x)).mpr ⟨Nat.zero_le _, hi⟩)
  exact lv_iinc C.1 C.2.1 hd hl hkk hv hn rfl (fun ls' hl' => k p e R s m args below meth c H locs cells slots ls' C c1 c2 hS hR (ab_L_pairs hk hl'))
theorem aw_iadd {a b : Int32} (hd : decode y.2.1 pc = .ok (.iadd, 1)) (k : AW l g X Z y F Lw kc ks (pc + 1) L (.int (a + b) :: st) M) : AW l g X Z y F Lw kc ks pc L (.int b :: .int a :: st) M :=
  fun p e R s m args below meth c H locs cells slots ls C c1 c2 hS hR hl => lv_iadd C.1 C.2.1 hd (k p e R s m args below meth c H locs cells slots ls C c1 c2 hS hR hl)
theorem aw_isub {a b : Int32} (hd : decode y.2.1 pc = .ok (.isub, 1)) (k : AW l g X Z y F Lw kc ks (pc + 1) L (.int (a - b) :: st) M) : AW l g X Z y F Lw kc ks pc L (.int b :: .int a :: st) M :=
  fun p e R s m args below meth c H locs cells slots ls C c1 c2 hS hR hl => lv_isub C.1 C.2.1 hd (k p e R s m args below meth c H locs cells slots ls C c1 c2 hS hR hl)
theorem aw_imul {a b : Int32} (hd : decode y.2.1 pc = .ok (.imul, 1)) (k : AW l g X Z y F Lw kc ks (pc + 1) L (.int (a * b) :: st) M) : AW l g X Z y F Lw kc ks pc L (.int b :: .int a :: st) M :=
  fun p e R s m args below meth c H locs cells slots ls C c1 c2 hS hR hl => lv_imul C.1 C.2.1 hd (k p e R s m args below meth c H locs cells slots ls C c1 c2 hS hR hl)
theorem aw_iand {a b : Int32} (hd : decode y.2.1 pc = .ok (.iand, 1)) (k : AW l g X Z y F Lw kc ks (pc + 1) L (.int (a &&& b) :: st) M) : AW l g X Z y F Lw kc ks pc L (.int b :: .int a :: st) M :=
  fun p e R s m args below meth c H locs cells slots ls C c1 c2 hS hR hl => lv_iand C.1 C.2.1 hd (k p e R s m args below meth c H locs cells slots ls C c1 c2 hS hR hl)
theorem aw_ior {a b : Int32} (hd : decode y.2.1 pc = .ok (.ior, 1)) (k : AW l g X Z y F Lw kc ks (pc + 1) L (.int (a ||| b) :: st) M) : AW l g X Z y F Lw kc ks pc L (.int b :: .int a :: st) M :=
  fun p e R s m args below meth c H locs cells slots ls C c1 c2 hS hR hl => lv_ior C.1 C.2.1 hd (k p e R s m args below meth c H locs cells slots ls C c1 c2 hS hR hl)
theorem aw_ixor {a b : Int32} (hd : decode y.2.1 pc = .ok (.ixor, 1)) (k : AW l g X Z y F Lw kc ks (pc + 1) L (.int (a ^^^ b) :: st) M) : AW l g X Z y F Lw kc ks pc L (.int b :: .int a :: st) M :=
  fun p e R s m args below meth c H locs cells slots ls C c1 c2 hS hR hl => lv_ixor C.1 C.2.1 hd (k p e R s m args below meth c H locs cells slots ls C c1 c2 hS hR hl)
theorem aw_ishl {a b : Int32} (hd : decode y.2.1 pc = .ok (.ishl, 1)) (k : AW l g X Z y F Lw kc ks (pc + 1) L (.int (a <<< (b &&& 31)) :: st) M) : AW l g X Z y F Lw kc ks pc L (.int b :: .int a :: st) M :=
  fun p e R s m args below meth c H locs cells slots ls C c1 c2 hS hR hl => lv_ishl C.1 C.2.1 hd (k p e R s m args below meth c H locs cells slots ls C c1 c2 hS hR hl)
theorem aw_ishr {a b : Int32} (hd : decode y.2.1 pc = .ok (.ishr, 1)) (k : AW l g X Z y F Lw kc ks (pc + 1) L (.int (a >>> (b &&& 31)) :: st) M) : AW l g X Z y F Lw kc ks pc L (.int b :: .int a :: st) M :=
  fun p e R s m args below meth c H locs cells slots ls C c1 c2 hS hR hl => lv_ishr C.1 C.2.1 hd (k p e R s m args below meth c H locs cells slots ls C c1 c2 hS hR hl)
theorem aw_iushr {a b : Int32} (hd : decode y.2.1 pc = .ok (.iushr, 1)) (k : AW l g X Z y F Lw kc ks (pc + 1) L (.int ((a.toUInt32 >>> (b.toUInt32 &&& Int32.toUInt32 31)).toInt32) :: st) M) : AW l g X Z y F Lw kc ks pc L (.int b :: .int a :: st) M :=
  fun p e R s m args below meth c H locs cells slots ls C c1 c2 hS hR hl => lv_iushr C.1 C.2.1 hd rfl (k p e R s m args below meth c H locs cells slots ls C c1 c2 hS hR hl)
theorem aw_idiv {a b : Int32} (hd : decode y.2.1 pc = .ok (.idiv, 1)) (hne : ¬ b = 0) (k : AW l g X Z y F Lw kc ks (pc + 1) L (.int (a / b) :: st) M) : AW l g X Z y F Lw kc ks pc L (.int b :: .int a :: st) M :=
  fun p e R s m args below meth c H locs cells slots ls C c1 c2 hS hR hl => lv_idiv C.1 C.2.1 hd hne (k p e R s m args below meth c H locs cells slots ls C c1 c2 hS hR hl)
theorem aw_irem {a b : Int32} (hd : decode y.2.1 pc = .ok (.irem, 1)) (hne : ¬ b = 0) (k : AW l g X Z y F Lw kc ks (pc + 1) L (.int (a - a / b * b) :: st) M) : AW l g X Z y F Lw kc ks pc L (.int b :: .int a :: st) M :=
  fun p e R s m args below meth c H locs cells slots ls C c1 c2 hS hR hl => lv_irem C.1 C.2.1 hd hne (k p e R s m args below meth c H locs cells slots ls C c1 c2 hS hR hl)
theorem aw_ladd {a b : Int64} (hd : decode y.2.1 pc = .ok (.ladd, 1)) (k : AW l g X Z y F Lw kc ks (pc + 1) L (.long (a + b) :: st) M) : AW l g X Z y F Lw kc ks pc L (.long b :: .long a :: st) M :=
  fun p e R s m args below meth c H locs cells slots ls C c1 c2 hS hR hl => lv_ladd C.1 C.2.1 hd (k p e R s m args below meth c H locs cells slots ls C c1 c2 hS hR hl)
theorem aw_land {a b : Int64} (hd : decode y.2.1 pc = .ok (.land, 1)) (k : AW l g X Z y F Lw kc ks (pc + 1) L (.long (a &&& b) :: st) M) : AW l g X Z y F Lw kc ks pc L (.long b :: .long a :: st) M :=
  fun p e R s m args below meth c H locs cells slots ls C c1 c2 hS hR hl => lv_land C.1 C.2.1 hd (k p e R s m args below meth c H locs cells slots ls C c1 c2 hS hR hl)
theorem aw_lor {a b : Int64} (hd : decode y.2.1 pc = .ok (.lor, 1)) (k : AW l g X Z y F Lw kc ks (pc + 1) L (.long (a ||| b) :: st) M) : AW l g X Z y F Lw kc ks pc L (.long b :: .long a :: st) M :=
  fun p e R s m args below meth c H locs cells slots ls C c1 c2 hS hR hl => lv_lor C.1 C.2.1 hd (k p e R s m args below meth c H locs cells slots ls C c1 c2 hS hR hl)
theorem aw_i2l {a : Int32} (hd : decode y.2.1 pc = .ok (.i2l, 1)) (k : AW l g X Z y F Lw kc ks (pc + 1) L (.long a.toInt64 :: st) M) : AW l g X Z y F Lw kc ks pc L (.int a :: st) M :=
  fun p e R s m args below meth c H locs cells slots ls C c1 c2 hS hR hl => lv_i2l C.1 C.2.1 hd rfl (k p e R s m args below meth c H locs cells slots ls C c1 c2 hS hR hl)
theorem aw_l2i {a : Int64} (hd : decode y.2.1 pc = .ok (.l2i, 1)) (k : AW l g X Z y F Lw kc ks (pc + 1) L (.int a.toInt32 :: st) M) : AW l g X Z y F Lw kc ks pc L (.long a :: st) M :=
  fun p e R s m args below meth c H locs cells slots ls C c1 c2 hS hR hl => lv_l2i C.1 C.2.1 hd rfl (k p e R s m args below meth c H locs cells slots ls C c1 c2 hS hR hl)
theorem aw_lushr {a : Int64} {b : Int32} (hd : decode y.2.1 pc = .ok (.lushr, 1)) (k : AW l g X Z y F Lw kc ks (pc + 1) L (.long ((a.toUInt64 >>> (b.toInt64.toUInt64 &&& Int64.toUInt64 63)).toInt64) :: st) M) : AW l g X Z y F Lw kc ks pc L (.int b :: .long a :: st) M :=
  fun p e R s m args below meth c H locs cells slots ls C c1 c2 hS hR hl => lv_lushr C.1 C.2.1 hd rfl (k p e R s m args below meth c H locs cells slots ls C c1 c2 hS hR hl)
theorem aw_lshl {a : Int64} {b : Int32} (hd : decode y.2.1 pc = .ok (.lshl, 1)) (k : AW l g X Z y F Lw kc ks (pc + 1) L (.long (a <<< (b.toInt64 &&& 63)) :: st) M) : AW l g X Z y F Lw kc ks pc L (.int b :: .long a :: st) M :=
  fun p e R s m args below meth c H locs cells slots ls C c1 c2 hS hR hl => lv_lshl C.1 C.2.1 hd rfl (k p e R s m args below meth c H locs cells slots ls C c1 c2 hS hR hl)
theorem aw_lshr {a : Int64} {b : Int32} (hd : decode y.2.1 pc = .ok (.lshr, 1)) (k : AW l g X Z y F Lw kc ks (pc + 1) L (.long (a >>> (b.toInt64 &&& 63)) :: st) M) : AW l g X Z y F Lw kc ks pc L (.int b :: .long a :: st) M :=
  fun p e R s m args below meth c H locs cells slots ls C c1 c2 hS hR hl => lv_lshr C.1 C.2.1 hd rfl (k p e R s m args below meth c H locs cells slots ls C c1 c2 hS hR hl)
theorem aw_lcmp {a b : Int64} (hd : decode y.2.1 pc = .ok (.lcmp, 1)) (k : AW l g X Z y F Lw kc ks (pc + 1) L (.int (lg_cmp a b) :: st) M) : AW l g X Z y F Lw kc ks pc L (.long b :: .long a :: st) M :=
  fun p e R s m args below meth c H locs cells slots ls C c1 c2 hS hR hl => W.lcmp C.1 C.2.1 hd (k p e R s m args below meth c H locs cells slots ls C c1 c2 hS hR hl)
theorem aw_dup {va : Value} (hd : decode y.2.1 pc = .ok (.dup, 1)) (h1 : va.category = 1) (k : AW l g X Z y F Lw kc ks (pc + 1) L (va :: va :: st) M) : AW l g X Z y F Lw kc ks pc L (va :: st) M :=
  fun p e R s m args below meth c H locs cells slots ls C c1 c2 hS hR hl => lv_dup C.1 C.2.1 hd h1 (k p e R s m args below meth c H locs cells slots ls C c1 c2 hS hR hl)
theorem aw_pop {va : Value} (hd : decode y.2.1 pc = .ok (.pop, 1)) (h1 : va.category = 1) (k : AW l g X Z y F Lw kc ks (pc + 1) L (st) M) : AW l g X Z y F Lw kc ks pc L (va :: st) M :=
  fun p e R s m args below meth c H locs cells slots ls C c1 c2 hS hR hl => lv_pop C.1 C.2.1 hd h1 (k p e R s m args below meth c H locs cells slots ls C c1 c2 hS hR hl)
theorem aw_dup_x1 {va vb : Value} (hd : decode y.2.1 pc = .ok (.dup_x1, 1)) (h1 : va.category = 1) (h2 : vb.category = 1) (k : AW l g X Z y F Lw kc ks (pc + 1) L (va :: vb :: va :: st) M) : AW l g X Z y F Lw kc ks pc L (va :: vb :: st) M :=
  fun p e R s m args below meth c H locs cells slots ls C c1 c2 hS hR hl => lv_dup_x1 C.1 C.2.1 hd h1 h2 (k p e R s m args below meth c H locs cells slots ls C c1 c2 hS hR hl)
theorem aw_dup2 {va vb : Value} (hd : decode y.2.1 pc = .ok (.dup2, 1)) (h1 : va.category = 1) (h2 : vb.category = 1) (k : AW l g X Z y F Lw kc ks (pc + 1) L (va :: vb :: va :: vb :: st) M) : AW l g X Z y F Lw kc ks pc L (va :: vb :: st) M :=
  fun p e R s m args below meth c H locs cells slots ls C c1 c2 hS hR hl => lv_dup2_11 C.1 C.2.1 hd h1 h2 (k p e R s m args below meth c H locs cells slots ls C c1 c2 hS hR hl)
theorem aw_ldc {i : Nat} {v : Int32} (hd : decode y.2.1 pc = .ok (.ldc i, 2)) (hw : Jvm.Cond.constant y.1.cls i v ∈ ab_T) (k : AW l g X Z y F Lw kc ks (pc + 2) L (.int v :: st) M) : AW l g X Z y F Lw kc ks pc L (st) M :=
  fun p e R s m args below meth c H locs cells slots ls C c1 c2 hS hR hl => lv_ldc C.1 C.2.1 C.2.2.2.1 (C.2.2.2.2.1 _ hw) hd (k p e R s m args below meth c H locs cells slots ls C c1 c2 hS hR hl)
theorem aw_ldcw {i : Nat} {v : Int32} (hd : decode y.2.1 pc = .ok (.ldc_w i, 3)) (hw : Jvm.Cond.constant y.1.cls i v ∈ ab_T) (k : AW l g X Z y F Lw kc ks (pc + 3) L (.int v :: st) M) : AW l g X Z y F Lw kc ks pc L (st) M :=
  fun p e R s m args below meth c H locs cells slots ls C c1 c2 hS hR hl => lv_ldcw C.1 C.2.1 C.2.2.2.1 (C.2.2.2.2.1 _ hw) hd (k p e R s m args below meth c H locs cells slots ls C c1 c2 hS hR hl)
theorem aw_ldc2 {i : Nat} {v : Int64} (hd : decode y.2.1 pc = .ok (.ldc2_w i, 3)) (hw : Jvm.Cond.constantLong y.1.cls i v ∈ ab_T) (k : AW l g X Z y F Lw kc ks (pc + 3) L (.long v :: st) M) : AW l g X Z y F Lw kc ks pc L (st) M :=
  fun p e R s m args below meth c H locs cells slots ls C c1 c2 hS hR hl => lv_ldc2 C.1 C.2.1 C.2.2.2.1 (C.2.2.2.2.1 _ hw) hd (k p e R s m args below meth c H locs cells slots ls C c1 c2 hS hR hl)
theorem aw_castN {i : Nat} (hd : decode y.2.1 pc = .ok (.checkcast i, 3)) (k : AW l g X Z y F Lw kc ks (pc + 3) L (.null :: st) M) : AW l g X Z y F Lw kc ks pc L (.null :: st) M :=
  fun p e R s m args below meth c H locs cells slots ls C c1 c2 hS hR hl => lv_castN C.1 C.2.1 hd (k p e R s m args below meth c H locs cells slots ls C c1 c2 hS hR hl)
theorem aw_if_eq {x : Int32} {off : Int} {tgt : Nat} (hd : decode y.2.1 pc = .ok (.ifCond .eq off, 3)) (ht : (pc : Int) + off = (tgt : Int)) (kt : x = 0 → AW l g X Z y F Lw kc ks tgt L st M) (kf : ¬ x = 0 → AW l g X Z y F Lw kc ks (pc + 3) L st M) : AW l g X Z y F Lw kc ks pc L (.int x :: st) M :=
  fun p e R s m args below meth c H locs cells slots ls C c1 c2 hS hR hl => lv_if_eq C.1 C.2.1 hd ht (fun h => kt h p e R s m args below meth c H locs cells slots ls C c1 c2 hS hR hl) (fun h => kf h p e R s m args below meth c H locs cells slots ls C c1 c2 hS hR hl)
theorem aw_if_ne {x : Int32} {off : Int} {tgt : Nat} (hd : decode y.2.1 pc = .ok (.ifCond .ne off, 3)) (ht : (pc : Int) + off = (tgt : Int)) (kt : ¬ x = 0 → AW l g X Z y F Lw kc ks tgt L st M) (kf : x = 0 → AW l g X Z y F Lw kc ks (pc + 3) L st M) : AW l g X Z y F Lw kc ks pc L (.int x :: st) M :=
  fun p e R s m args below meth c H locs cells slots ls C c1 c2 hS hR hl => lv_if_ne C.1 C.2.1 hd ht (fun h => kt h p e R s m args below meth c H locs cells slots ls C c1 c2 hS hR hl) (fun h => kf h p e R s m args below meth c H locs cells slots ls C c1 c2 hS hR hl)
theorem aw_if_lt {x : Int32} {off : Int} {tgt : Nat} (hd : decode y.2.1 pc = .ok (.ifCond .lt off, 3)) (ht : (pc : Int) + off = (tgt : Int)) (kt : x < 0 → AW l g X Z y F Lw kc ks tgt L st M) (kf : ¬ x < 0 → AW l g X Z y F Lw kc ks (pc + 3) L st M) : AW l g X Z y F Lw kc ks pc L (.int x :: st) M :=
  fun p e R s m args below meth c H locs cells slots ls C c1 c2 hS hR hl => lv_if_lt C.1 C.2.1 hd ht (fun h => kt h p e R s m args below meth c H locs cells slots ls C c1 c2 hS hR hl) (fun h => kf h p e R s m args below meth c H locs cells slots ls C c1 c2 hS hR hl)
theorem aw_if_ge {x : Int32} {off : Int} {tgt : Nat} (hd : decode y.2.1 pc = .ok (.ifCond .ge off, 3)) (ht : (pc : Int) + off = (tgt : Int)) (kt : 0 ≤ x → AW l g X Z y F Lw kc ks tgt L st M) (kf : ¬ 0 ≤ x → AW l g X Z y F Lw kc ks (pc + 3) L st M) : AW l g X Z y F Lw kc ks pc L (.int x :: st) M :=
  fun p e R s m args below meth c H locs cells slots ls C c1 c2 hS hR hl => lv_if_ge C.1 C.2.1 hd ht (fun h => kt h p e R s m args below meth c H locs cells slots ls C c1 c2 hS hR hl) (fun h => kf h p e R s m args below meth c H locs cells slots ls C c1 c2 hS hR hl)
theorem aw_if_gt {x : Int32} {off : Int} {tgt : Nat} (hd : decode y.2.1 pc = .ok (.ifCond .gt off, 3)) (ht : (pc : Int) + off = (tgt : Int)) (kt : 0 < x → AW l g X Z y F Lw kc ks tgt L st M) (kf : ¬ 0 < x → AW l g X Z y F Lw kc ks (pc + 3) L st M) : AW l g X Z y F Lw kc ks pc L (.int x :: st) M :=
  fun p e R s m args below meth c H locs cells slots ls C c1 c2 hS hR hl => lv_if_gt C.1 C.2.1 hd ht (fun h => kt h p e R s m args below meth c H locs cells slots ls C c1 c2 hS hR hl) (fun h => kf h p e R s m args below meth c H locs cells slots ls C c1 c2 hS hR hl)
theorem aw_if_le {x : Int32} {off : Int} {tgt : Nat} (hd : decode y.2.1 pc = .ok (.ifCond .le off, 3)) (ht : (pc : Int) + off = (tgt : Int)) (kt : x ≤ 0 → AW l g X Z y F Lw kc ks tgt L st M) (kf : ¬ x ≤ 0 → AW l g X Z y F Lw kc ks (pc + 3) L st M) : AW l g X Z y F Lw kc ks pc L (.int x :: st) M :=
  fun p e R s m args below meth c H locs cells slots ls C c1 c2 hS hR hl => lv_if_le C.1 C.2.1 hd ht (fun h => kt h p e R s m args below meth c H locs cells slots ls C c1 c2 hS hR hl) (fun h => kf h p e R s m args below meth c H locs cells slots ls C c1 c2 hS hR hl)
theorem aw_icmp_eq {x z : Int32} {off : Int} {tgt : Nat} (hd : decode y.2.1 pc = .ok (.if_icmp .eq off, 3)) (ht : (pc : Int) + off = (tgt : Int)) (kt : x = z → AW l g X Z y F Lw kc ks tgt L st M) (kf : ¬ x = z → AW l g X Z y F Lw kc ks (pc + 3) L st M) : AW l g X Z y F Lw kc ks pc L (.int z :: .int x :: st) M :=
  fun p e R s m args below meth c H locs cells slots ls C c1 c2 hS hR hl => lv_icmp_eq C.1 C.2.1 hd ht (fun h => kt h p e R s m args below meth c H locs cells slots ls C c1 c2 hS hR hl) (fun h => kf h p e R s m args below meth c H locs cells slots ls C c1 c2 hS hR hl)
theorem aw_icmp_ne {x z : Int32} {off : Int} {tgt : Nat} (hd : decode y.2.1 pc = .ok (.if_icmp .ne off, 3)) (ht : (pc : Int) + off = (tgt : Int)) (kt : ¬ x = z → AW l g X Z y F Lw kc ks tgt L st M) (kf : x = z → AW l g X Z y F Lw kc ks (pc + 3) L st M) : AW l g X Z y F Lw kc ks pc L (.int z :: .int x :: st) M :=
  fun p e R s m args below meth c H locs cells slots ls C c1 c2 hS hR hl => lv_icmp_ne C.1 C.2.1 hd ht (fun h => kt h p e R s m args below meth c H locs cells slots ls C c1 c2 hS hR hl) (fun h => kf h p e R s m args below meth c H locs cells slots ls C c1 c2 hS hR hl)
theorem aw_icmp_lt {x z : Int32} {off : Int} {tgt : Nat} (hd : decode y.2.1 pc = .ok (.if_icmp .lt off, 3)) (ht : (pc : Int) + off = (tgt : Int)) (kt : x < z → AW l g X Z y F Lw kc ks tgt L st M) (kf : ¬ x < z → AW l g X Z y F Lw kc ks (pc + 3) L st M) : AW l g X Z y F Lw kc ks pc L (.int z :: .int x :: st) M :=
  fun p e R s m args below meth c H locs cells slots ls C c1 c2 hS hR hl => lv_icmp_lt C.1 C.2.1 hd ht (fun h => kt h p e R s m args below meth c H locs cells slots ls C c1 c2 hS hR hl) (fun h => kf h p e R s m args below meth c H locs cells slots ls C c1 c2 hS hR hl)
theorem aw_icmp_ge {x z : Int32} {off : Int} {tgt : Nat} (hd : decode y.2.1 pc = .ok (.if_icmp .ge off, 3)) (ht : (pc : Int) + off = (tgt : Int)) (kt : z ≤ x → AW l g X Z y F Lw kc ks tgt L st M) (kf : ¬ z ≤ x → AW l g X Z y F Lw kc ks (pc + 3) L st M) : AW l g X Z y F Lw kc ks pc L (.int z :: .int x :: st) M :=
  fun p e R s m args below meth c H locs cells slots ls C c1 c2 hS hR hl => lv_icmp_ge C.1 C.2.1 hd ht (fun h => kt h p e R s m args below meth c H locs cells slots ls C c1 c2 hS hR hl) (fun h => kf h p e R s m args below meth c H locs cells slots ls C c1 c2 hS hR hl)
theorem aw_icmp_gt {x z : Int32} {off : Int} {tgt : Nat} (hd : decode y.2.1 pc = .ok (.if_icmp .gt off, 3)) (ht : (pc : Int) + off = (tgt : Int)) (kt : z < x → AW l g X Z y F Lw kc ks tgt L st M) (kf : ¬ z < x → AW l g X Z y F Lw kc ks (pc + 3) L st M) : AW l g X Z y F Lw kc ks pc L (.int z :: .int x :: st) M :=
  fun p e R s m args below meth c H locs cells slots ls C c1 c2 hS hR hl => lv_icmp_gt C.1 C.2.1 hd ht (fun h => kt h p e R s m args below meth c H locs cells slots ls C c1 c2 hS hR hl) (fun h => kf h p e R s m args below meth c H locs cells slots ls C c1 c2 hS hR hl)
theorem aw_icmp_le {x z : Int32} {off : Int} {tgt : Nat} (hd : decode y.2.1 pc = .ok (.if_icmp .le off, 3)) (ht : (pc : Int) + off = (tgt : Int)) (kt : x ≤ z → AW l g X Z y F Lw kc ks tgt L st M) (kf : ¬ x ≤ z → AW l g X Z y F Lw kc ks (pc + 3) L st M) : AW l g X Z y F Lw kc ks pc L (.int z :: .int x :: st) M :=
  fun p e R s m args below meth c H locs cells slots ls C c1 c2 hS hR hl => lv_icmp_le C.1 C.2.1 hd ht (fun h => kt h p e R s m args below meth c H locs cells slots ls C c1 c2 hS hR hl) (fun h => kf h p e R s m args below meth c H locs cells slots ls C c1 c2 hS hR hl)
theorem aw_goto {off : Int} {tgt : Nat} (hd : decode y.2.1 pc = .ok (.goto off, 3)) (ht : (pc : Int) + off = (tgt : Int)) (k : AW l g X Z y F Lw kc ks tgt L st M) : AW l g X Z y F Lw kc ks pc L st M :=
  fun p e R s m args below meth c H locs cells slots ls C c1 c2 hS hR hl => lv_goto C.1 C.2.1 hd ht (k p e R s m args below meth c H locs cells slots ls C c1 c2 hS hR hl)
theorem aw_ifnonnull {x : Nat} {off : Int} {tgt : Nat} (hd : decode y.2.1 pc = .ok (.ifnonnull off, 3)) (ht : (pc : Int) + off = (tgt : Int)) (k : AW l g X Z y F Lw kc ks tgt L st M) : AW l g X Z y F Lw kc ks pc L (.ref x :: st) M :=
  fun p e R s m args below meth c H locs cells slots ls C c1 c2 hS hR hl => lv_ifnonnull C.1 C.2.1 hd ht (k p e R s m args below meth c H locs cells slots ls C c1 c2 hS hR hl)
theorem aw_ifnull {x : Nat} {off : Int} (hd : decode y.2.1 pc = .ok (.ifnull off, 3)) (k : AW l g X Z y F Lw kc ks (pc + 3) L st M) : AW l g X Z y F Lw kc ks pc L (.ref x :: st) M :=
  fun p e R s m args below meth c H locs cells slots ls C c1 c2 hS hR hl => lv_ifnull C.1 C.2.1 hd (k p e R s m args below meth c H locs cells slots ls C c1 c2 hS hR hl)
theorem aw_ifnullN {off : Int} {tgt : Nat} (hd : decode y.2.1 pc = .ok (.ifnull off, 3)) (ht : (pc : Int) + off = (tgt : Int)) (k : AW l g X Z y F Lw kc ks tgt L st M) : AW l g X Z y F Lw kc ks pc L (.null :: st) M :=
  fun p e R s m args below meth c H locs cells slots ls C c1 c2 hS hR hl => lv_ifnullN C.1 C.2.1 hd ht (k p e R s m args below meth c H locs cells slots ls C c1 c2 hS hR hl)
theorem aw_ifnonnullN {off : Int} (hd : decode y.2.1 pc = .ok (.ifnonnull off, 3)) (k : AW l g X Z y F Lw kc ks (pc + 3) L st M) : AW l g X Z y F Lw kc ks pc L (.null :: st) M :=
  fun p e R s m args below meth c H locs cells slots ls C c1 c2 hS hR hl => lv_ifnonnullN C.1 C.2.1 hd (k p e R s m args below meth c H locs cells slots ls C c1 c2 hS hR hl)
theorem aw_acmp_eq {x z : Nat} {off : Int} {tgt : Nat} (hd : decode y.2.1 pc = .ok (.if_acmp .eq off, 3)) (ht : (pc : Int) + off = (tgt : Int)) (kt : x = z → AW l g X Z y F Lw kc ks tgt L st M) (kf : ¬ x = z → AW l g X Z y F Lw kc ks (pc + 3) L st M) : AW l g X Z y F Lw kc ks pc L (.ref z :: .ref x :: st) M :=
  fun p e R s m args below meth c H locs cells slots ls C c1 c2 hS hR hl => lv_acmp_eq (rx := some x) (ry := some z) C.1 C.2.1 hd ht (fun h => kt (Option.some.inj h) p e R s m args below meth c H locs cells slots ls C c1 c2 hS hR hl) (fun h => kf (fun q => h (congrArg some q)) p e R s m args below meth c H locs cells slots ls C c1 c2 hS hR hl)
theorem aw_acmp_ne {x z : Nat} {off : Int} {tgt : Nat} (hd : decode y.2.1 pc = .ok (.if_acmp .ne off, 3)) (ht : (pc : Int) + off = (tgt : Int)) (kt : ¬ x = z → AW l g X Z y F Lw kc ks tgt L st M) (kf : x = z → AW l g X Z y F Lw kc ks (pc + 3) L st M) : AW l g X Z y F Lw kc ks pc L (.ref z :: .ref x :: st) M :=
  fun p e R s m args below meth c H locs cells slots ls C c1 c2 hS hR hl => lv_acmp_ne (rx := some x) (ry := some z) C.1 C.2.1 hd ht (fun h => kt (fun q => h (congrArg some q)) p e R s m args below meth c H locs cells slots ls C c1 c2 hS hR hl) (fun h => kf (Option.some.inj h) p e R s m args below meth c H locs cells slots ls C c1 c2 hS hR hl)
theorem aw_swIn {dflt lo hi : Int} {offs : Array Int} {len : Nat} {x : Int32} {off : Int} {tgt : Nat} (hd : decode y.2.1 pc = .ok (.tableswitch dflt lo hi offs, len)) (h1 : ¬ x.toInt < lo) (h2 : ¬ hi < x.toInt) (ho : offs[(x.toInt - lo).toNat]? = some off) (ht : (pc : Int) + off = (tgt : Int)) (k : AW l g X Z y F Lw kc ks tgt L st M) : AW l g X Z y F Lw kc ks pc L (.int x :: st) M :=
  fun p e R s m args below meth c H locs cells slots ls C c1 c2 hS hR hl => lv_tableIn C.1 C.2.1 hd h1 h2 ho ht (k p e R s m args below meth c H locs cells slots ls C c1 c2 hS hR hl)
theorem aw_swOut {dflt lo hi : Int} {offs : Array Int} {len : Nat} {x : Int32} {tgt : Nat} (hd : decode y.2.1 pc = .ok (.tableswitch dflt lo hi offs, len)) (h : x.toInt < lo ∨ hi < x.toInt) (ht : (pc : Int) + dflt = (tgt : Int)) (k : AW l g X Z y F Lw kc ks tgt L st M) : AW l g X Z y F Lw kc ks pc L (.int x :: st) M :=
  fun p e R s m args below meth c H locs cells slots ls C c1 c2 hS hR hl => lv_tableOut C.1 C.2.1 hd h ht (k p e R s m args below meth c H locs cells slots ls C c1 c2 hS hR hl)
theorem aw_lsw {dflt : Int} {ps : Array (Int × Int)} {len : Nat} {x : Int32} {off : Int} {tgt : Nat} (hd : decode y.2.1 pc = .ok (.lookupswitch dflt ps, len)) (hp : (ps.toList.zip (ps.toList.drop 1)).all (fun (a, next) => a.1 < next.1) = true) (ho : Op.lookupswitch.offset ps.toList dflt x.toInt = off) (ht : (pc : Int) + off = (tgt : Int)) (k : AW l g X Z y F Lw kc ks tgt L st M) : AW l g X Z y F Lw kc ks pc L (.int x :: st) M :=
  fun p e R s m args below meth c H locs cells slots ls C c1 c2 hS hR hl => lv_lookup C.1 C.2.1 hd hp ho ht (k p e R s m args below meth c H locs cells slots ls C c1 c2 hS hR hl)
end AB
