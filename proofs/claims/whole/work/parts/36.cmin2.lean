/-! ===== the class's minutes: safety is kept ===== -/
def cV (nf nm : Nat) (κ : cS) : Prop := ∀ i, i < nf → (κ.2.1 i).Nodup ∧ ∀ m ∈ κ.2.1 i, m < nm ∧ κ.1.2.1 19 m = 0 ∧ κ.1.2.1 15 m = nI i
theorem cI.of {nf nj nm : Nat} {κ τ : cS} (h : cI nf nj nm κ) (h0 : cI0 nf nj nm τ) (e31 : τ.1.1 31 = κ.1.1 31) (e35 : ∃ n, n ≤ 100 ∧ τ.1.1 35 = nI n) (e42 : ∃ n, n < 100 ∧ τ.1.1 42 = nI n) (e22 : τ.2.2 = κ.2.2) (e15 : τ.1.2.1 15 = κ.1.2.1 15) (hV : cV nf nm τ) : cI nf nj nm τ :=
  ⟨h0.1, h0.2.1, h0.2.2.1, h0.2.2.2.1, h0.2.2.2.2, by rw [e31]; exact h.2.2.2.2.2.1, e35, e42, by rw [e22, e15]; exact h.2.2.2.2.2.2.2.2.1, hV⟩
theorem cI.V {nf nj nm : Nat} {κ : cS} (h : cI nf nj nm κ) : cV nf nm κ := h.2.2.2.2.2.2.2.2.2
theorem cI.of2 {nf nj nm : Nat} {κ τ : cS} (h : cI nf nj nm κ) (h0 : cI0 nf nj nm τ) (e1 : τ.1.1 = κ.1.1) (e22 : τ.2.2 = κ.2.2) (e15 : τ.1.2.1 15 = κ.1.2.1 15) (hV : cV nf nm τ) : cI nf nj nm τ :=
  h.of h0 (by rw [e1]) (by rw [e1]; exact h.2.2.2.2.2.2.1) (by rw [e1]; exact h.2.2.2.2.2.2.2.1) e22 e15 hV
theorem nx_mem {κ : cS} : ∀ (ls : List Nat) (s : Option Nat) (m : Nat), q_nx κ ls s = some m → m ∈ ls ∨ s = some m
  | [], s, m, h => Or.inr h
  | x :: xs, none, m, h => by
    rcases nx_mem xs (some x) m h with h | h
    · exact Or.inl (List.mem_cons_of_mem _ h)
    · exact Or.inl (by cases h; exact List.mem_cons_self)
  | x :: xs, some y, m, h => by
    rw [q_nx] at h
    rcases nx_mem xs _ m h with h | h
    · exact Or.inl (List.mem_cons_of_mem _ h)
    · split at h
      · exact Or.inr h
      · exact Or.inl (by cases h; exact List.mem_cons_self)
theorem cI_flow {nf nj nm i : Nat} {κ : cS} (h : cI nf nj nm κ) : cI nf nj nm (g_flow κ i) := by
  unfold g_flow
  split
  · exact h
  · exact h
theorem cI_drink {nf nj nm j : Nat} {κ : cS} (h : cI nf nj nm κ) : cI nf nj nm (g_drink κ j) := h
theorem next_ok : ∀ q, q < 100 → nI q + 1 - (nI q + 1) / 100 * 100 = nI ((q + 1) % 100) := by decide +kernel
theorem kept_ok : ∀ n, n ≤ 100 → q_min 100 (nI n + 1) = nI (min 100 (n + 1)) := by decide +kernel
theorem cI_keep {nf nj nm m : Nat} {κ : cS} {v t : Int32} (h : cI nf nj nm κ) : cI nf nj nm (g_keep κ m v t) := by
  refine h.of (show cI0 nf nj nm κ from h.z) rfl ?_ ?_ rfl rfl h.V
  · obtain ⟨n, hn, e⟩ := h.2.2.2.2.2.2.1
    refine ⟨min 100 (n + 1), by omega, ?_⟩
    show q_min 100 (κ.1.1 35 + 1) = _
    rw [e]
    exact kept_ok n hn
  · obtain ⟨n, hn, e⟩ := h.2.2.2.2.2.2.2.1
    refine ⟨(n + 1) % 100, by omega, ?_⟩
    show κ.1.1 42 + 1 - (κ.1.1 42 + 1) / 100 * 100 = _
    rw [e]
    exact next_ok n hn
theorem cI_pour {nf nj nm m : Nat} {κ : cS} (h : cI nf nj nm κ) : cI nf nj nm (g_pour κ m) := by
  unfold g_pour
  split
  · exact cI_keep (κ := g_pour1 κ m) h
  · exact h
theorem cI_down {nf nj nm m : Nat} {κ : cS} (h : cI nf nj nm κ) (hm : ∀ i, i < nf → m ∉ κ.2.1 i) : cI nf nj nm (g_down κ m) :=
  h.of2 h.z rfl rfl rfl (cI_19 h.V m 2 (Or.inr hm))
theorem cI_up {nf nj nm m : Nat} {κ : cS} {t : Int32} (h : cI nf nj nm κ) (hm : ∀ i, i < nf → m ∉ κ.2.1 i) : cI nf nj nm (g_up κ m t) :=
  h.of2 h.z rfl rfl rfl (cI_19 h.V m 1 (Or.inr hm))
theorem cI_leave {nf nj nm m : Nat} {κ : cS} (h : cI nf nj nm κ) : cI nf nj nm (g_leave κ m) := by
  refine h.of2 h.z rfl rfl rfl (fun i hi => ?_)
  unfold g_leave cw
  dsimp only
  split
  · next e =>
    subst e
    exact ⟨(h.V _ hi).1.erase _, fun x hx => (h.V _ hi).2 x (List.mem_of_mem_erase hx)⟩
  · exact h.V i hi
theorem leave_no {nf nj nm m : Nat} {κ : cS} (h : cI nf nj nm κ) : ∀ i, i < nf → m ∉ (g_leave κ m).2.1 i := by
  intro i hi hx
  have hb := h.1
  unfold g_leave cw at hx
  dsimp only at hx
  split at hx
  · next e =>
    subst e
    exact absurd hx (by rw [(h.V _ hi).1.mem_erase_iff]; simp)
  · next e =>
    have e2 := ((h.V i hi).2 m hx).2.2
    rw [e2, nI_cl (by omega)] at e
    exact e rfl
theorem does_no {nf nj nm m : Nat} {κ : cS} (h : cI nf nj nm κ) (hd : ¬ κ.1.2.1 19 m = 0) : ∀ i, i < nf → m ∉ κ.2.1 i := fun i hi hx => hd ((h.V i hi).2 m hx).2.1
theorem cI_join {nf nj nm m : Nat} {κ : cS} (h : cI nf nj nm κ) (hm : m < nm) (hno : ∀ i, i < nf → m ∉ κ.2.1 i) : cI nf nj nm (g_join κ m) := by
  have hb := h.1
  obtain ⟨fi, hfi, e⟩ := h.2.2.1 m hm
  have h9 := cI_19 h.V m 0 (Or.inl rfl)
  refine h.of2 h.z rfl rfl rfl (fun i hi => ?_)
  unfold g_join cw
  rw [e, nI_cl (by omega)]
  dsimp only
  split
  · next e2 =>
    subst e2
    refine ⟨List.nodup_append.mpr ⟨(h.V _ hi).1, by simp, fun a ha b hb2 => ?_⟩, fun x hx => ?_⟩
    · simp at hb2
      subst hb2
      intro e3
      subst e3
      exact hno _ hi ha
    · rcases List.mem_append.mp hx with hx | hx
      · exact (h9 _ hi).2 x hx
      · simp at hx
        subst hx
        exact ⟨hm, by show upd _ _ _ _ = _; simp [upd], e⟩
  · exact h9 i hi
theorem cI_fill {nf nj nm i : Nat} {κ : cS} (h : cI nf nj nm κ) : cI nf nj nm (g_fill κ i) := by
  unfold g_fill
  split
  · exact h
  · split
    · exact h
    · next m _ =>
      have h1 : cI nf nj nm (g_fill1 κ i m (q_fvC κ i m)) := h
      generalize g_fill1 κ i m (q_fvC κ i m) = τ at h1
      have h2 : cI nf nj nm (g_fill2 τ i m (q_fvC κ i m)) := by
        unfold g_fill2
        split
        · exact h1
        · exact h1
      generalize g_fill2 τ i m (q_fvC κ i m) = υ at h2
      unfold g_fill3
      split
      · exact h2
      · exact cI_up (cI_leave h2) (leave_no h2)
theorem cI_walk {nf nj nm m : Nat} {κ : cS} (h : cI nf nj nm κ) (hm : m < nm) : cI nf nj nm (g_walk κ m) := by
  unfold g_walk
  split
  · exact h
  · next hd =>
    have hd : ¬ κ.1.2.1 19 m = 0 := fun q => hd (Or.inl q)
    have h1 : cI nf nj nm (cp κ 20 m (κ.1.2.1 20 m - 1)) := h
    have hd1 : ¬ (cp κ 20 m (κ.1.2.1 20 m - 1)).1.2.1 19 m = 0 := hd
    generalize cp κ 20 m (κ.1.2.1 20 m - 1) = τ at h1 hd1
    unfold g_walk1
    split
    · split
      · refine cI_down (cI_pour h1) ?_
        have e : (g_pour τ m).2.1 = τ.2.1 := by
          unfold g_pour
          split
          · rfl
          · rfl
        rw [e]
        exact does_no h1 hd1
      · exact cI_join h1 hm (does_no h1 hd1)
    · exact h1
theorem nodup_len : ∀ (n : Nat) (ls : List Nat), ls.Nodup → (∀ x ∈ ls, x < n) → ls.length ≤ n
  | 0, ls, _, h => by
    cases ls with
    | nil => simp
    | cons a as => exact absurd (h a List.mem_cons_self) (by omega)
  | n + 1, ls, hn, h => by
    have h1 := nodup_len n (ls.erase n) (hn.erase n) (fun x hx => by
      have h2 := h x (List.mem_of_mem_erase hx)
      have h3 := (hn.mem_erase_iff.mp hx).1
      omega)
    have := List.length_erase (l := ls) (a := n)
    split at this <;> omega
theorem row_len {nf nj nm m i : Nat} {κ : cS} (h : cI nf nj nm κ) (hm : m < nm) (hi : i < nf) (hno : m ∉ κ.2.1 i) : (κ.2.1 i).length < 10 := by
  have h1 := nodup_len nm (m :: κ.2.1 i) (List.nodup_cons.mpr ⟨hno, (h.V i hi).1⟩) (fun x hx => by
    rcases List.mem_cons.mp hx with e | hx
    · rw [e]; exact hm
    · exact ((h.V i hi).2 x hx).1)
  have := h.1
  simp at h1
  omega
